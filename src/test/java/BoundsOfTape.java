import java.util.ArrayList;
import java.util.List;

/** Boundary cases of promises 16 to 20: the tape, and rows that are checked. */
final class BoundsOfTape {
    private BoundsOfTape() {
    }

    private static void tell(RubbedWelds x, int... row) {
        for (int number : row) {
            x.tell(number);
        }
    }

    /** A tape of 500 numbers, all of them 7; one window of number 0 whose proof has five. */
    private static RubbedWelds full() {
        RubbedWelds x = Given.windowed();
        for (int i = 0; i < 500; i++) {
            x.tell(7);
        }
        return x;
    }

    /** Holds a row against the window of the hotter job. */
    private static void checked(Checker c, String what, int due, int from, int to, int... row) {
        RubbedWelds x = Given.hotter();
        x.window(0, from, to);
        tell(x, row);
        c.due(what, due, x.check(0));
    }

    // Promise 16

    @Case(promise = 16, says = {"A number (0 .. 31) more on the TAPE: how many it has", "NONE: out of bounds"})
    static void tellOfZeroAtLeast(Checker c) {
        RubbedWelds x = new RubbedWelds();
        c.due("tell(-1)", -1, x.tell(-1));
        c.due("nothing told", 0, x.count(4));
        c.due("tell(0)", 1, x.tell(0));
        c.due("far below", -1, x.tell(Integer.MIN_VALUE));
    }

    @Case(promise = 16, says = {"A number (0 .. 31) more on the TAPE: how many it has", "NONE: out of bounds"})
    static void tellOf31AtMost(Checker c) {
        RubbedWelds x = new RubbedWelds();
        c.due("tell(32)", -1, x.tell(32));
        c.due("nothing told", 0, x.count(4));
        c.due("tell(31)", 1, x.tell(31));
        c.due("far above", -1, x.tell(Integer.MAX_VALUE));
        c.due("one told", 1, x.count(4));
    }

    @Case(promise = 16, says = "it has 500")
    static void tellIsFullWith500(Checker c) {
        RubbedWelds x = new RubbedWelds();
        for (int i = 1; i < 500; i++) {
            x.tell(0);
        }
        c.due("the 500th", 500, x.tell(31));
        c.due("the 501st", -1, x.tell(31));
        c.due("500 numbers", 500, x.count(4));
        c.due("one less", true, x.end(499));
        c.due("one again", 500, x.tell(1));
    }

    // Promise 17

    @Case(promise = 17, says = "LEAST of a WINDOW on the TAPE instead of all there: how many")
    static void copyOnAnEmptyTape(Checker c) {
        RubbedWelds x = Given.windowed();
        c.due("copy", 5, x.copy(0));
        c.due("five numbers", 5, x.count(4));
        c.due("a proof", -1, x.check(0));
    }

    @Case(promise = 17, says = "instead of all there")
    static void copyOnAFullTape(Checker c) {
        RubbedWelds x = full();
        c.due("copy", 5, x.copy(0));
        c.due("five numbers", 5, x.count(4));
        c.due("a proof", -1, x.check(0));
        c.due("nothing of what was there", 6, x.tell(0));
        c.due("it goes on at place 5", 5, x.check(0));
    }

    @Case(promise = 17, says = "instead of all there")
    static void copyOfALongerAndAShorterRow(Checker c) {
        RubbedWelds x = Given.windowed();
        x.window(0, 163, 163);
        c.due("a row of one", 1, x.copy(1));
        c.due("a row of five", 5, x.copy(0));
        c.due("a row of one again", 1, x.copy(1));
        c.due("one number", 1, x.count(4));
        c.due("a proof", -1, x.check(1));
    }

    @Case(promise = 17, says = "NONE: no such WINDOW")
    static void copyOfNoWindow(Checker c) {
        RubbedWelds x = Given.windowed();
        tell(x, 10, 18, 1, 0, 0);
        c.refuses("window", -1, 0, 0, n -> x.copy(n));
        c.due("the tape stays", 5, x.count(4));
        c.due("as it was", -1, x.check(0));
    }

    // Promise 18

    @Case(promise = 18, says = {"False: no such place", "instead of that at a place of the TAPE"})
    static void alterOfTheFirstAndTheLastPlace(Checker c) {
        RubbedWelds x = Given.windowed();
        x.copy(0);
        c.due("place -1", false, x.alter(-1, 31));
        c.due("place 5", false, x.alter(5, 31));
        c.due("nothing altered", -1, x.check(0));
        c.due("the last place", true, x.alter(4, 31));
        c.due("altered there", 4, x.check(0));
        c.due("the first place", true, x.alter(0, 31));
        c.due("altered there too", 0, x.check(0));
        c.due("five numbers", 5, x.count(4));
    }

    @Case(promise = 18, says = "False: no such place")
    static void alterOfAnEmptyTape(Checker c) {
        RubbedWelds x = new RubbedWelds();
        c.due("place 0", false, x.alter(0, 0));
        x.tell(0);
        c.due("place 0 of one", true, x.alter(0, 1));
        c.due("place 1 of one", false, x.alter(1, 1));
        x.end(0);
        c.due("place 0 of what was cut off", false, x.alter(0, 0));
    }

    @Case(promise = 18, says = "False: no such place")
    static void alterOfAFullTape(Checker c) {
        RubbedWelds x = full();
        c.due("place 499", true, x.alter(499, 0));
        c.due("place 500", false, x.alter(500, 0));
        c.due("far below", false, x.alter(Integer.MIN_VALUE, 0));
        c.due("far above", false, x.alter(Integer.MAX_VALUE, 0));
    }

    @Case(promise = 18, says = {"A number (0 .. 31)", "out of bounds"})
    static void alterToZeroAtLeast(Checker c) {
        RubbedWelds x = Given.windowed();
        x.copy(0);
        c.due("number -1", false, x.alter(0, -1));
        c.due("far below", false, x.alter(0, Integer.MIN_VALUE));
        c.due("nothing altered", -1, x.check(0));
        c.due("number 0", true, x.alter(0, 0));
        c.due("altered", 0, x.check(0));
    }

    @Case(promise = 18, says = {"A number (0 .. 31)", "out of bounds"})
    static void alterTo31AtMost(Checker c) {
        RubbedWelds x = Given.windowed();
        x.copy(0);
        c.due("number 32", false, x.alter(0, 32));
        c.due("far above", false, x.alter(0, Integer.MAX_VALUE));
        c.due("nothing altered", -1, x.check(0));
        c.due("number 31", true, x.alter(0, 31));
        c.due("altered", 0, x.check(0));
    }

    // Promise 19

    @Case(promise = 19, says = {"The TAPE has its first n numbers alone", "False: n"})
    static void endIsZeroAtLeast(Checker c) {
        RubbedWelds x = Given.windowed();
        x.copy(0);
        c.due("end(-1)", false, x.end(-1));
        c.due("far below", false, x.end(Integer.MIN_VALUE));
        c.due("five numbers", 5, x.count(4));
        c.due("end(0)", true, x.end(0));
        c.due("none", 0, x.count(4));
    }

    @Case(promise = 19, says = "False: n")
    static void endIsAllAtMost(Checker c) {
        RubbedWelds x = Given.windowed();
        x.copy(0);
        c.due("end(6)", false, x.end(6));
        c.due("far above", false, x.end(Integer.MAX_VALUE));
        c.due("end(5)", true, x.end(5));
        c.due("all are there", -1, x.check(0));
    }

    @Case(promise = 19, says = "False: n")
    static void endOfAnEmptyAndAFullTape(Checker c) {
        RubbedWelds x = new RubbedWelds();
        c.due("end(0) of none", true, x.end(0));
        c.due("end(1) of none", false, x.end(1));
        RubbedWelds y = full();
        c.due("end(501) of 500", false, y.end(501));
        c.due("end(500) of 500", true, y.end(500));
        c.due("end(499) of 500", true, y.end(499));
        c.due("end(500) of 499", false, y.end(500));
    }

    @Case(promise = 19, says = "The TAPE has its first n numbers alone")
    static void endKeepsTheFirstOnes(Checker c) {
        RubbedWelds x = Given.windowed();
        x.copy(0);
        c.due("four of five", true, x.end(4));
        c.due("it ends too early", 4, x.check(0));
        c.due("the fifth anew", 5, x.tell(0));
        c.due("a proof again", -1, x.check(0));
    }

    // Promise 20

    @Case(promise = 20, says = "-2: no such WINDOW")
    static void checkOfNoWindow(Checker c) {
        c.due("without windows", -2, Given.still().check(0));
        RubbedWelds x = Given.windowed();
        x.copy(0);
        c.due("window 0", -1, x.check(0));
        c.refuses("window", -2, 0, 0, n -> x.check(n));
    }

    @Case(promise = 20, says = {"CHECKED: the place", "its length, if it ends too early"})
    static void checkOfARowThatEndsTooEarly(Checker c) {
        checked(c, "nothing", 0, 86, 131);
        checked(c, "without its parts", 1, 86, 131, 14);
        checked(c, "without the upper part", 2, 86, 131, 14, 1);
        checked(c, "a whole one", -1, 86, 131, 14, 1, 0);
        checked(c, "nothing for one setting", 0, 115, 115);
    }

    @Case(promise = 20, says = {"the first place behind the PROOF, if it goes on", "-1, if it is one"})
    static void checkOfARowThatGoesOn(Checker c) {
        checked(c, "one number more", 3, 86, 131, 14, 1, 0, 0);
        checked(c, "one that could not stand anywhere", 3, 86, 131, 14, 1, 0, 31);
        checked(c, "two numbers more", 3, 86, 131, 14, 1, 0, 1, 1);
        checked(c, "one leaf and more", 1, 115, 115, 0, 0);
        checked(c, "one leaf", -1, 115, 115, 0);
        RubbedWelds x = Given.hotter();
        x.window(0, 115, 115);
        for (int i = 0; i < 500; i++) {
            x.tell(0);
        }
        c.due("a full tape that goes on", 1, x.check(0));
    }

    @Case(promise = 20, says = "or is 0 or 1 where that is not so")
    static void checkOfLeavesThatAreNotSo(Checker c) {
        checked(c, "0 where five of six are good", 0, 34, 439, 0);
        checked(c, "0 where one of six is good", 0, 86, 131, 0);
        checked(c, "1 where one of six is good", 0, 86, 131, 1);
        checked(c, "0 for the bad part", 1, 86, 131, 14, 0, 0);
        checked(c, "1 for the good part", 2, 86, 131, 14, 1, 1);
        checked(c, "1 for one good setting", 0, 115, 115, 1);
        checked(c, "0 for one bad setting", 0, 106, 106, 0);
        checked(c, "0 for all good ones", -1, 136, 145, 0);
        checked(c, "1 for all bad ones", -1, 86, 122, 1);
    }

    /** A row for six numbers on an axis, whose first five are bad: each cut, and the first number that is none. */
    private static void cutsOfSix(Checker c, int axis, int from, int to) {
        int first = 2 + 8 * axis;
        checked(c, "five below", -1, from, to, first + 4, 1, 0);
        checked(c, "six below", 0, from, to, first + 5, 1, 0);
        checked(c, "seven below", 0, from, to, first + 6, 1, 0);
        checked(c, "eight below", 0, from, to, first + 7, 1, 0);
        checked(c, "one below, then four", -1, from, to, first, 1, first + 3, 1, 0);
        checked(c, "one below, then all five", 2, from, to, first, 1, first + 4, 1, 0);
        for (int lower = 1; lower < 5; lower++) {
            checked(c, lower + " below, all of them bad", -1, from, to, first + lower - 1, 1, first + 4 - lower, 1, 0);
        }
    }

    @Case(promise = 20, says = "the first place whose number is none that may stand there")
    static void checkOfCutsOfTurn(Checker c) {
        cutsOfSix(c, 0, 5, 410);
        checked(c, "push of one", 0, 5, 410, 10, 1, 0);
        checked(c, "loss of one", 0, 5, 410, 18, 1, 0);
    }

    @Case(promise = 20, says = "the first place whose number is none that may stand there")
    static void checkOfCutsOfPush(Checker c) {
        cutsOfSix(c, 1, 86, 131);
        checked(c, "turn of one", 0, 86, 131, 2, 1, 0);
        checked(c, "loss of one", 0, 86, 131, 18, 1, 0);
    }

    @Case(promise = 20, says = "the first place whose number is none that may stand there")
    static void checkOfCutsOfLoss(Checker c) {
        cutsOfSix(c, 2, 110, 115);
        checked(c, "turn of one", 0, 110, 115, 2, 1, 0);
        checked(c, "push of one", 0, 110, 115, 10, 1, 0);
    }

    @Case(promise = 20, says = "the first place whose number is none that may stand there")
    static void checkOfNumbersOfNoAxis(Checker c) {
        for (int number = 26; number <= 31; number++) {
            checked(c, "number " + number, 0, 86, 131, number, 1, 0);
        }
        for (int number = 2; number <= 31; number++) {
            checked(c, "number " + number + " for one setting", 0, 115, 115, number, 0, 0);
        }
    }

    @Case(promise = 20, says = {"A told ROW (on the TAPE) is CHECKED against a WINDOW:", "the first place"})
    static void checkTellsTheFirstPlace(Checker c) {
        checked(c, "both parts are wrong", 1, 86, 131, 14, 0, 1);
        checked(c, "wrong, and ends too early", 1, 86, 131, 14, 0);
        checked(c, "wrong, and goes on", 2, 86, 131, 14, 1, 1, 1, 1);
    }

    @Case(promise = 20, says = {"-1: it is a PROOF", "-1, if it is one"})
    static void checkOfAProofThatIsNotTheLeast(Checker c) {
        checked(c, "three leaves instead of two", -1, 86, 131, 10, 1, 13, 1, 0);
        checked(c, "a cut of what is all good", -1, 136, 145, 10, 0, 0);
        checked(c, "the other axis first", -1, 25, 115, 10, 1, 2, 1, 0);
    }

    /** The proof that cuts a box to single settings, the highest turn, push or loss first: the lower part is long. */
    private static void cutAll(List<Integer> row, int turns, int pushes, int losses) {
        int[] sizes = {turns, pushes, losses};
        for (int axis = 0; axis < 3; axis++) {
            if (sizes[axis] > 1) {
                row.add(2 + 8 * axis + sizes[axis] - 2);
                sizes[axis]--;
                cutAll(row, sizes[0], sizes[1], sizes[2]);
                sizes[axis] = 1;
                cutAll(row, sizes[0], sizes[1], sizes[2]);
                return;
            }
        }
        row.add(1);
    }

    @Case(promise = 20, says = {"-1: it is a PROOF", "a row of numbers"})
    static void checkOfTheLongestProof(Checker c) {
        RubbedWelds x = Given.cold(2);
        x.window(0, 0, Given.setting(6, 6, 6));
        List<Integer> row = new ArrayList<>();
        cutAll(row, 6, 6, 6);
        c.due("216 leaves and 215 cuts", 431, row.size());
        for (int number : row.subList(0, 430)) {
            x.tell(number);
        }
        c.due("without its last number", 430, x.check(0));
        x.tell(0);
        c.due("with a wrong last number", 430, x.check(0));
        x.alter(430, 1);
        c.due("whole", -1, x.check(0));
        x.tell(1);
        c.due("with one more", 431, x.check(0));
    }
}
