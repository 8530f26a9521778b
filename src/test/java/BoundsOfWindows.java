/** Boundary cases of promises 12 to 15 and 21 to 23: windows, least proofs, greatest boxes, edges, what mends. */
final class BoundsOfWindows {
    private BoundsOfWindows() {
    }

    /** The hotter job with one window, of number 0. */
    private static RubbedWelds hotter(int from, int to) {
        RubbedWelds x = Given.hotter();
        x.window(0, from, to);
        return x;
    }

    /** 216 settings, all of them good. */
    private static RubbedWelds allGood() {
        RubbedWelds x = Given.still();
        x.window(0, Given.setting(4, 4, 4), 728);
        return x;
    }

    /** 216 settings, none of them good. */
    private static RubbedWelds allBad() {
        RubbedWelds x = Given.cold(2);
        x.window(0, 0, Given.setting(6, 6, 6));
        return x;
    }

    private static void proofIs(Checker c, RubbedWelds x, int... due) {
        c.due("length", due.length, x.proof(0, -1));
        for (int i = 0; i < due.length; i++) {
            c.due("number " + i, due[i], x.proof(0, i));
        }
        c.due("leaves", (due.length + 1) / 2, x.leaves(0));
    }

    private static void greatestIs(Checker c, RubbedWelds x, int from, int to, int size) {
        c.due("its lowest", from, x.greatest(0, 0));
        c.due("its greatest", to, x.greatest(0, 1));
        c.due("how many", size, x.greatest(0, 2));
    }

    // Promise 12

    @Case(promise = 12, says = {"A WINDOW from one SETTING to another one: its number", "NONE: no such ones"})
    static void windowOfNoJob(Checker c) {
        RubbedWelds x = Given.still();
        c.refuses("job", -1, 0, 0, n -> x.window(n, 0, 0));
        c.due("job 0", 0, x.window(0, 0, 0));
    }

    @Case(promise = 12, says = "NONE: no such ones")
    static void windowOfNoSetting(Checker c) {
        RubbedWelds x = Given.still();
        c.refuses("from", -1, 0, 728, n -> x.window(0, n, 0));
        c.refuses("to", -1, 0, 728, n -> x.window(0, 728, n));
        c.refuses("from and to", -1, 0, 728, n -> x.window(0, n, n));
        c.due("the lowest setting alone", 0, x.window(0, 0, 0));
        c.due("the highest setting alone", 1, x.window(0, 728, 728));
    }

    @Case(promise = 12, says = "above")
    static void windowWithTurnAbove(Checker c) {
        RubbedWelds x = Given.still();
        c.due("turn 3 to 2", -1, x.window(0, Given.setting(3, 1, 1), Given.setting(2, 2, 2)));
        c.due("turn 3 to 3", 0, x.window(0, Given.setting(3, 1, 1), Given.setting(3, 2, 2)));
    }

    @Case(promise = 12, says = "above")
    static void windowWithPushAbove(Checker c) {
        RubbedWelds x = Given.still();
        c.due("push 3 to 2", -1, x.window(0, Given.setting(2, 3, 1), Given.setting(3, 2, 2)));
        c.due("push 3 to 3", 0, x.window(0, Given.setting(2, 3, 1), Given.setting(3, 3, 2)));
    }

    @Case(promise = 12, says = "above")
    static void windowWithLossAbove(Checker c) {
        RubbedWelds x = Given.still();
        c.due("loss 3 to 2", -1, x.window(0, Given.setting(2, 2, 3), Given.setting(3, 3, 2)));
        c.due("loss 3 to 3", 0, x.window(0, Given.setting(2, 2, 3), Given.setting(3, 3, 3)));
    }

    @Case(promise = 12, says = {"more than six numbers", "turn, push, loss from .. to, each at most six numbers"})
    static void windowOfSixTurns(Checker c) {
        RubbedWelds x = Given.still();
        c.due("turn 1 to 7", -1, x.window(0, 0, Given.setting(7, 1, 1)));
        c.due("turn 3 to 9", -1, x.window(0, Given.setting(3, 1, 1), Given.setting(9, 1, 1)));
        c.due("turn 1 to 9", -1, x.window(0, 0, Given.setting(9, 1, 1)));
        c.due("turn 1 to 6", 0, x.window(0, 0, Given.setting(6, 1, 1)));
        c.due("turn 4 to 9", 1, x.window(0, Given.setting(4, 1, 1), Given.setting(9, 1, 1)));
    }

    @Case(promise = 12, says = {"more than six numbers", "turn, push, loss from .. to, each at most six numbers"})
    static void windowOfSixPushes(Checker c) {
        RubbedWelds x = Given.still();
        c.due("push 1 to 7", -1, x.window(0, 0, Given.setting(1, 7, 1)));
        c.due("push 3 to 9", -1, x.window(0, Given.setting(9, 3, 1), Given.setting(9, 9, 1)));
        c.due("push 1 to 6", 0, x.window(0, 0, Given.setting(1, 6, 1)));
        c.due("push 4 to 9", 1, x.window(0, Given.setting(9, 4, 1), Given.setting(9, 9, 1)));
    }

    @Case(promise = 12, says = {"more than six numbers", "turn, push, loss from .. to, each at most six numbers"})
    static void windowOfSixLosses(Checker c) {
        RubbedWelds x = Given.still();
        c.due("loss 1 to 7", -1, x.window(0, 0, 6));
        c.due("loss 3 to 9", -1, x.window(0, 722, 728));
        c.due("loss 1 to 6", 0, x.window(0, 0, 5));
        c.due("loss 4 to 9", 1, x.window(0, 723, 728));
    }

    @Case(promise = 12, says = "boxes of SETTINGS")
    static void windowOfOneAndOf216(Checker c) {
        RubbedWelds x = allGood();
        c.due("six of each, all good", 216, x.good(0));
        c.due("the lowest six of each", 1, x.window(0, 0, Given.setting(6, 6, 6)));
        c.due("one setting", 2, x.window(0, 364, 364));
        c.due("one setting, good", 1, x.good(2));
    }

    @Case(promise = 12, says = {"there are ten", "WINDOWS (10 at most) of a JOB"})
    static void windowIsFullWithTen(Checker c) {
        RubbedWelds x = Given.still();
        for (int i = 0; i < 10; i++) {
            c.due("window", i, x.window(0, 163, 163));
        }
        c.due("the eleventh", -1, x.window(0, 163, 163));
        c.due("ten windows", 10, x.count(3));
        c.due("the tenth is one", 1, x.good(9));
        c.due("there is no eleventh", -1, x.good(10));
    }

    @Case(promise = 12, says = "NONE: no such ones")
    static void windowThatIsRefusedTakesNoNumber(Checker c) {
        RubbedWelds x = Given.still();
        x.window(1, 0, 0);
        x.window(0, 1, 0);
        x.window(0, 0, 6);
        c.due("none yet", 0, x.count(3));
        c.due("the first one taken", 0, x.window(0, 0, 5));
    }

    // Promise 13

    @Case(promise = 13, says = "How many of its SETTINGS are GOOD")
    static void goodOfNoneOneAllButOneAndAll(Checker c) {
        c.due("none", 0, allBad().good(0));
        c.due("one of six", 1, hotter(5, 410).good(0));
        c.due("five of six", 5, hotter(34, 439).good(0));
        c.due("all", 216, allGood().good(0));
    }

    @Case(promise = 13, says = "NONE: no such WINDOW")
    static void goodOfNoWindow(Checker c) {
        c.due("without windows", -1, Given.still().good(0));
        RubbedWelds x = Given.windowed();
        c.due("window 0", 3, x.good(0));
        c.refuses("window", -1, 0, 0, n -> x.good(n));
    }

    // Promise 14

    @Case(promise = 14, says = {"LEAVES of LEAST", "LEAVES: how many 0 and 1 it has"})
    static void leavesAreOneAtLeast(Checker c) {
        c.due("all good", 1, allGood().leaves(0));
        c.due("all bad", 1, allBad().leaves(0));
        c.due("one setting", 1, hotter(115, 115).leaves(0));
        c.due("two settings, otherwise", 2, hotter(115, 124).leaves(0));
        c.due("two settings, alike", 1, hotter(136, 145).leaves(0));
        // B G B G: no cut leaves a part of two that are alike.
        c.due("four settings by turns", 4, hotter(106, 133).leaves(0));
    }

    @Case(promise = 14, says = "NONE: no such WINDOW")
    static void leavesOfNoWindow(Checker c) {
        c.due("without windows", -1, Given.still().leaves(0));
        RubbedWelds x = Given.windowed();
        c.due("window 0", 3, x.leaves(0));
        c.refuses("window", -1, 0, 0, n -> x.leaves(n));
    }

    // Promise 15

    @Case(promise = 15, says = {"A PROOF of a box is a row of numbers: 0, if all its SETTINGS are GOOD, 1, if none is",
        "0 and 1 ahead of all"})
    static void proofOfAllAlike(Checker c) {
        proofIs(c, allGood(), 0);
        proofIs(c, allBad(), 1);
        proofIs(c, hotter(115, 115), 0);
        proofIs(c, hotter(106, 106), 1);
    }

    @Case(promise = 15, says = {"or 2 and 8 times the AXIS (0 turn, 1 push, 2 loss) and how many numbers less 1 the "
        + "lower part has on that AXIS (0 .. 4)", "then a PROOF of the lower part, then of the upper one"})
    static void proofWithLowerPartOfOne(Checker c) {
        proofIs(c, hotter(34, 439), 2, 1, 0);
        proofIs(c, hotter(107, 152), 10, 1, 0);
        proofIs(c, hotter(144, 149), 18, 1, 0);
    }

    @Case(promise = 15, says = "how many numbers less 1 the lower part has on that AXIS (0 .. 4)")
    static void proofWithLowerPartOfFive(Checker c) {
        proofIs(c, hotter(5, 410), 6, 1, 0);
        proofIs(c, hotter(86, 131), 14, 1, 0);
        proofIs(c, hotter(110, 115), 22, 1, 0);
    }

    @Case(promise = 15, says = "LEAST: a PROOF with the fewest LEAVES")
    static void proofWithFewestLeavesAheadOfLesserNumber(Checker c) {
        // B B B B B G: each lesser cut would leave a part to be cut again.
        proofIs(c, hotter(86, 131), 14, 1, 0);
        // B G G B: the cuts behind one and behind three lead to three leaves, that in the middle to four.
        proofIs(c, hotter(127, 154), 10, 1, 11, 0, 1);
    }

    @Case(promise = 15, says = "of several cuts of one box that with the lesser number is taken")
    static void proofOfSeveralCutsTheLesser(Checker c) {
        // Boxes of two by two with one good setting, the last one: either axis may be cut first.
        proofIs(c, hotter(25, 115), 2, 1, 10, 1, 0);
        proofIs(c, hotter(33, 115), 2, 1, 18, 1, 0);
        proofIs(c, hotter(105, 115), 10, 1, 18, 1, 0);
        // G B G G G G: cut behind one or behind two.
        proofIs(c, hotter(115, 160), 10, 0, 10, 1, 0);
    }

    @Case(promise = 15, says = {"Number i of LEAST; how many there are, if i is NONE", "NONE without"})
    static void proofOfNoSuchPlace(Checker c) {
        RubbedWelds x = hotter(86, 131);
        c.due("how many", 3, x.proof(0, RubbedWelds.NONE));
        c.due("the first", 14, x.proof(0, 0));
        c.due("the last", 0, x.proof(0, 2));
        c.refuses("place", -1, -1, 2, n -> x.proof(0, n));
        RubbedWelds one = allBad();
        c.due("the last of one", 1, one.proof(0, 0));
        c.due("behind the last of one", -1, one.proof(0, 1));
    }

    @Case(promise = 15, says = "NONE without")
    static void proofOfNoWindow(Checker c) {
        c.due("without windows", -1, Given.still().proof(0, -1));
        RubbedWelds x = Given.windowed();
        c.refuses("first of window", -1, 0, 0, n -> x.proof(n, 0));
        c.refuses("how many of window", -1, 0, 0, n -> x.proof(n, -1));
    }

    // Promise 21

    @Case(promise = 21, says = "GREATEST: 0 its lowest SETTING, 1 its greatest one, 2 how many")
    static void greatestOfWhatIsZeroToTwo(Checker c) {
        RubbedWelds x = hotter(34, 439);
        greatestIs(c, x, 115, 439, 5);
        c.refuses("what", -1, 0, 2, n -> x.greatest(0, n));
    }

    @Case(promise = 21, says = "NONE: none is GOOD")
    static void greatestWithoutGoodOnes(Checker c) {
        greatestIs(c, allBad(), -1, -1, -1);
        greatestIs(c, hotter(106, 106), -1, -1, -1);
        greatestIs(c, hotter(86, 122), -1, -1, -1);
        greatestIs(c, hotter(86, 131), 131, 131, 1);
    }

    @Case(promise = 21, says = "no such ones")
    static void greatestOfNoWindow(Checker c) {
        c.due("without windows", -1, Given.still().greatest(0, 2));
        RubbedWelds x = Given.windowed();
        c.due("window 0", 2, x.greatest(0, 2));
        c.refuses("window", -1, 0, 0, n -> x.greatest(n, 2));
    }

    @Case(promise = 21, says = "GREATEST of a WINDOW: of boxes within it all of whose SETTINGS are GOOD that with the "
        + "most of them")
    static void greatestIsOneAndAllOfThem(Checker c) {
        greatestIs(c, allGood(), Given.setting(4, 4, 4), 728, 216);
        greatestIs(c, hotter(115, 115), 115, 115, 1);
        // G B G G G G: the lowest one alone is less than the four.
        greatestIs(c, hotter(115, 160), 133, 160, 4);
    }

    @Case(promise = 21, says = "of boxes within it all of whose SETTINGS are GOOD")
    static void greatestIsAllButTheFirstOnEachAxis(Checker c) {
        greatestIs(c, hotter(34, 439), 115, 439, 5);
        greatestIs(c, hotter(107, 152), 116, 152, 5);
        greatestIs(c, hotter(144, 149), 145, 149, 5);
    }

    @Case(promise = 21, says = "of boxes within it all of whose SETTINGS are GOOD")
    static void greatestIsTheLastAloneOnEachAxis(Checker c) {
        greatestIs(c, hotter(5, 410), 410, 410, 1);
        greatestIs(c, hotter(86, 131), 131, 131, 1);
        greatestIs(c, hotter(110, 115), 115, 115, 1);
    }

    @Case(promise = 21, says = "of several the one with the lesser lowest SETTING")
    static void greatestOfSeveralTheLesserLowest(Checker c) {
        // B G B G: two boxes of one.
        greatestIs(c, hotter(106, 133), 115, 115, 1);
        // 163 with 172, and 171 with 172.
        greatestIs(c, Given.windowed(), 163, 172, 2);
    }

    @Case(promise = 21, says = "then the lesser greatest one")
    static void greatestOfSeveralTheLesserGreatest(Checker c) {
        // 610, 611 and 619 are good, 620 cracks: 610 with 611, and 610 with 619.
        RubbedWelds x = Given.jobOf(2, 10, 10, 300, 50, 3, 53, 42, 7);
        x.window(0, 610, 620);
        c.due("three good ones", 3, x.good(0));
        c.due("620 is the bad one", 4, x.verdict(0, 620));
        greatestIs(c, x, 610, 611, 2);
    }

    // Promise 22

    @Case(promise = 22, says = "NONE: all are alike")
    static void edgeOfAllAlike(Checker c) {
        c.due("all good", -1, allGood().edge(0, 728));
        c.due("all bad", -1, allBad().edge(0, 0));
        c.due("one setting", -1, hotter(115, 115).edge(0, 115));
        c.due("two alike", -1, hotter(136, 145).edge(0, 136));
        c.due("two otherwise", 124, hotter(115, 124).edge(0, 115));
    }

    @Case(promise = 22, says = "no such WINDOW")
    static void edgeOfNoWindow(Checker c) {
        c.due("without windows", -1, Given.still().edge(0, 162));
        RubbedWelds x = Given.windowed();
        c.due("window 0", 163, x.edge(0, 162));
        c.refuses("window", -1, 0, 0, n -> x.edge(n, 162));
    }

    @Case(promise = 22, says = "SETTING in it")
    static void edgeOfSettingOneStepOutside(Checker c) {
        // Turn 2 to 3, push 6 to 7, loss 5 to 6; the lowest setting alone is bad.
        RubbedWelds x = hotter(130, 221);
        c.due("the lowest corner", 131, x.edge(0, 130));
        c.due("the highest corner", 130, x.edge(0, 221));
        c.due("turn less", -1, x.edge(0, Given.setting(1, 6, 5)));
        c.due("turn more", -1, x.edge(0, Given.setting(4, 6, 5)));
        c.due("push less", -1, x.edge(0, Given.setting(2, 5, 5)));
        c.due("push more, a number between from and to", -1, x.edge(0, Given.setting(2, 8, 5)));
        c.due("loss less", -1, x.edge(0, Given.setting(2, 6, 4)));
        c.due("loss more, a number between from and to", -1, x.edge(0, Given.setting(2, 6, 7)));
    }

    @Case(promise = 22, says = "SETTING in it")
    static void edgeOfNoSetting(Checker c) {
        RubbedWelds low = Given.cold(2);
        low.window(0, 0, 1);
        c.due("setting -1 below a window from 0", -1, low.edge(0, -1));
        RubbedWelds x = Given.windowed();
        c.refuses("setting", -1, 162, 172, n -> x.edge(0, n));
        c.refuses("setting", -1, 0, 728, n -> x.edge(0, n));
        c.due("setting 729 more", -1, x.edge(0, 729 + 163));
    }

    @Case(promise = 22, says = "EDGE of a SETTING in a WINDOW: of its SETTINGS that are otherwise (GOOD or not) the "
        + "nearest by the sum of steps")
    static void edgeIsTheNearest(Checker c) {
        // B G G B from 127 on.
        RubbedWelds x = hotter(127, 154);
        c.due("one step down, two up", 127, x.edge(0, 136));
        c.due("one step up, two down", 154, x.edge(0, 145));
        c.due("of the lowest", 136, x.edge(0, 127));
        c.due("of the highest", 145, x.edge(0, 154));
        c.due("three steps, one on each axis", 130, hotter(130, 221).edge(0, 221));
        // Of push 4 and 5, loss 6 to 9, the good ones are 115, 116 and 125; from push 5, loss 7 it is 2, 3 and 2 steps.
        c.due("two steps, on two axes and on one", 115, hotter(113, 125).edge(0, 123));
    }

    @Case(promise = 22, says = {"of several the least", "EDGE."})
    static void edgeOfSeveralTheLeast(Checker c) {
        // B G B G from 106 on.
        RubbedWelds x = hotter(106, 133);
        c.due("bad on both sides", 106, x.edge(0, 115));
        c.due("good on both sides", 115, x.edge(0, 124));
        c.due("one step on each axis", 131, hotter(130, 221).edge(0, 130));
    }

    @Case(promise = 22, says = "of its SETTINGS that are otherwise")
    static void edgeLooksInTheWindowAlone(Checker c) {
        // 124 is bad and beside 115, but outside.
        c.due("otherwise outside alone", -1, hotter(115, 115).edge(0, 115));
        c.due("otherwise inside", 106, hotter(106, 115).edge(0, 115));
    }

    // Promise 23

    /** Every setting is good. */
    private static RubbedWelds easy() {
        return Given.jobOf(2, 100, 1, 0, 50, 1, 50, 0, 500);
    }

    @Case(promise = 23, says = {"MENDED.", "MENDED by one step: of the six SETTINGS that are one step away"})
    static void mendedAtTheEndsOfTurn(Checker c) {
        RubbedWelds x = easy();
        c.due("turn 1", 63 - 1, x.mended(0, Given.setting(1, 5, 5)));
        c.due("turn 2", 63, x.mended(0, Given.setting(2, 5, 5)));
        c.due("turn 8", 63, x.mended(0, Given.setting(8, 5, 5)));
        c.due("turn 9", 63 - 2, x.mended(0, Given.setting(9, 5, 5)));
    }

    @Case(promise = 23, says = "of the six SETTINGS that are one step away")
    static void mendedAtTheEndsOfPush(Checker c) {
        RubbedWelds x = easy();
        c.due("push 1", 63 - 4, x.mended(0, Given.setting(5, 1, 5)));
        c.due("push 2", 63, x.mended(0, Given.setting(5, 2, 5)));
        c.due("push 8", 63, x.mended(0, Given.setting(5, 8, 5)));
        c.due("push 9", 63 - 8, x.mended(0, Given.setting(5, 9, 5)));
    }

    @Case(promise = 23, says = "of the six SETTINGS that are one step away")
    static void mendedAtTheEndsOfLoss(Checker c) {
        RubbedWelds x = easy();
        c.due("loss 1", 63 - 16, x.mended(0, Given.setting(5, 5, 1)));
        c.due("loss 2", 63, x.mended(0, Given.setting(5, 5, 2)));
        c.due("loss 8", 63, x.mended(0, Given.setting(5, 5, 8)));
        c.due("loss 9", 63 - 32, x.mended(0, Given.setting(5, 5, 9)));
    }

    @Case(promise = 23, says = "of the six SETTINGS that are one step away")
    static void mendedAtTheLowestAndHighestSetting(Checker c) {
        RubbedWelds x = easy();
        c.due("setting 0", 2 + 8 + 32, x.mended(0, 0));
        c.due("setting 728", 1 + 4 + 16, x.mended(0, 728));
    }

    @Case(promise = 23, says = {"(turn, push, loss, each less, more), as bits in this order", "those that are GOOD"})
    static void mendedByEachStep(Checker c) {
        RubbedWelds x = Given.hotter();
        c.due("none", 0, x.mended(0, 0));
        c.due("turn more", 2, x.mended(0, 34));
        c.due("push more", 8, x.mended(0, 126));
        c.due("turn more, push less, loss more", 2 + 4 + 32, x.mended(0, 144));
        c.due("turn more, push more, loss less", 2 + 8 + 16, x.mended(0, 116));
        RubbedWelds y = Given.jobOf(2, 10, 10, 300, 50, 3, 53, 42, 7);
        c.due("turn less", 1, y.mended(0, 558));
        c.due("push less", 4, y.mended(0, 702));
        c.due("no setting is good", 0, Given.cold(2).mended(0, 364));
    }

    @Case(promise = 23, says = "NONE: no such ones")
    static void mendedOfNoJob(Checker c) {
        c.due("without jobs", -1, Given.stuffs(1).mended(0, 0));
        RubbedWelds x = easy();
        c.refuses("job", -1, 0, 0, n -> x.mended(n, 0));
    }

    @Case(promise = 23, says = "NONE: no such ones")
    static void mendedOfNoSetting(Checker c) {
        RubbedWelds x = easy();
        c.refuses("setting", -1, 0, 728, n -> x.mended(0, n));
    }
}
