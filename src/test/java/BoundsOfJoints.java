/** Boundary cases of promises 24 to 28: joints, and what is known of them when. */
final class BoundsOfJoints {
    private static final int BAD = 162;
    private static final int GOOD = 163;

    private BoundsOfJoints() {
    }

    /** The still job with as many joints, all of them by a good setting. */
    private static RubbedWelds joints(int many) {
        RubbedWelds x = Given.still();
        for (int i = 0; i < many; i++) {
            x.joint(0, GOOD);
        }
        return x;
    }

    /** As many stuffs, all alike, and of each the job of it twice, with the stuff's number. */
    private static RubbedWelds jobs(int many) {
        RubbedWelds x = Given.stuffs(many);
        for (int i = 0; i < many; i++) {
            x.job(i, i, 2);
        }
        return x;
    }

    /** Joints of a job: some tried bad, then others tried good. */
    private static void tell(RubbedWelds x, int job, int bad, int good) {
        for (int i = 0; i < bad + good; i++) {
            x.attempt(x.joint(job, 0), i >= bad);
        }
    }

    // Promise 24

    @Case(promise = 24, says = {"NONE: no such JOB", "a JOB, a SETTING, NOW", "A JOINT: its number"})
    static void jointOfNoJob(Checker c) {
        c.due("without jobs", -1, Given.stuffs(1).joint(0, 0));
        RubbedWelds x = Given.still();
        c.refuses("job", -1, 0, 0, n -> x.joint(n, 0));
        c.due("no joint came of it", 0, x.count(5));
        c.due("job 0", 0, x.joint(0, 0));
        x.job(0, 0, 6);
        c.due("job 1, made", 1, x.joint(1, 0));
    }

    @Case(promise = 24, says = "SETTING,")
    static void jointOfNoSetting(Checker c) {
        RubbedWelds x = Given.still();
        c.refuses("setting", -1, 0, 728, n -> x.joint(0, n));
        c.due("no joint came of it", 0, x.count(5));
        c.due("setting 0", 0, x.joint(0, 0));
        c.due("setting 728", 1, x.joint(0, 728));
    }

    @Case(promise = 24, says = {"there are 60", "JOINTS (60 at most)"})
    static void jointIsFullWith60(Checker c) {
        RubbedWelds x = joints(59);
        c.due("the 60th", 59, x.joint(0, GOOD));
        c.due("the 61st", -1, x.joint(0, GOOD));
        c.due("60 joints", 60, x.count(5));
        c.due("the 60th is one", 0, x.tried(59, 0));
        c.due("there is no 61st", -1, x.tried(60, 0));
    }

    // Promise 25

    @Case(promise = 25, says = {"It is TRIED", "False: no such JOINT"})
    static void attemptOfNoJoint(Checker c) {
        c.due("without joints", false, Given.still().attempt(0, true));
        RubbedWelds x = joints(2);
        c.refuses("joint", 0, 0, 1, n -> x.attempt(n, true) ? 1 : 0);
        c.due("joint 0 is untried", 0, x.tried(0, 0));
        c.due("joint 0", true, x.attempt(0, true));
        c.due("joint 1", true, x.attempt(1, true));
    }

    @Case(promise = 25, says = {"there were 100", "TRIED (100 at most)"})
    static void attemptIsFullWith100OfOneJoint(Checker c) {
        RubbedWelds x = joints(1);
        for (int i = 1; i < 100; i++) {
            c.due("attempt " + i, true, x.attempt(0, true));
        }
        c.due("the 100th", true, x.attempt(0, false));
        c.due("the 101st", false, x.attempt(0, true));
        c.due("the 100th was the last", 2, x.tried(0, 0));
    }

    @Case(promise = 25, says = {"there were 100", "TRIED (100 at most)"})
    static void attemptIsFullWith100OfAllJoints(Checker c) {
        RubbedWelds x = joints(60);
        for (int i = 0; i < 99; i++) {
            x.attempt(i % 59, true);
        }
        c.due("the 100th", true, x.attempt(59, false));
        c.due("the 101st, of the same", false, x.attempt(59, true));
        c.due("the 101st, of another", false, x.attempt(0, false));
        c.due("the 60th joint", 2, x.tried(59, 0));
        c.due("the first joint", 1, x.tried(0, 0));
        x.days(1);
        c.due("the 101st, a day later", false, x.attempt(0, false));
    }

    @Case(promise = 25, says = "False: no such JOINT")
    static void attemptThatIsRefusedIsNotCounted(Checker c) {
        RubbedWelds x = joints(1);
        for (int i = 0; i < 150; i++) {
            x.attempt(1, true);
        }
        for (int i = 0; i < 100; i++) {
            c.due("attempt", true, x.attempt(0, true));
        }
        c.due("the 101st", false, x.attempt(0, true));
    }

    @Case(promise = 25, says = "told to be good or bad")
    static void attemptOnTheLastDay(Checker c) {
        RubbedWelds x = joints(1);
        x.days(500);
        x.days(500);
        c.due("told on day 1,000", true, x.attempt(0, true));
        c.due("known then", 1, x.tried(0, 1000));
        c.due("not known the day ahead", 0, x.tried(0, 999));
    }

    // Promise 26

    @Case(promise = 26, says = {"What a JOINT is as known in q: 0 UNTRIED, 1 good, 2 bad", "UNTRIED without"})
    static void triedOfEachWord(Checker c) {
        RubbedWelds x = joints(3);
        x.attempt(1, true);
        x.attempt(2, false);
        c.due("untried", 0, x.tried(0, 0));
        c.due("good", 1, x.tried(1, 0));
        c.due("bad", 2, x.tried(2, 0));
    }

    @Case(promise = 26, says = "NONE: no such ones")
    static void triedOfNoJoint(Checker c) {
        c.due("without joints", -1, Given.still().tried(0, 0));
        RubbedWelds x = joints(2);
        c.due("joint 0", 0, x.tried(0, 0));
        c.due("joint 1", 0, x.tried(1, 0));
        c.refuses("joint", -1, 0, 1, n -> x.tried(n, 0));
    }

    @Case(promise = 26, says = {"NONE: no such ones", "as known in q (0 .. NOW)"})
    static void triedInNoSuchDay(Checker c) {
        RubbedWelds x = joints(1);
        c.due("day 0", 0, x.tried(0, 0));
        c.refuses("day", -1, 0, 0, n -> x.tried(0, n));
        x.days(1);
        c.due("day 1", 0, x.tried(0, 1));
        c.refuses("day", -1, 0, 1, n -> x.tried(0, n));
    }

    @Case(promise = 26, says = "made behind q")
    static void triedOfAJointMadeBehind(Checker c) {
        RubbedWelds x = Given.still();
        x.days(5);
        x.joint(0, GOOD);
        x.attempt(0, true);
        x.days(5);
        c.due("the day ahead", -1, x.tried(0, 4));
        c.due("day 0", -1, x.tried(0, 0));
        c.due("the day it was made", 1, x.tried(0, 5));
        c.due("NOW", 1, x.tried(0, 10));
    }

    @Case(promise = 26, says = {"what was told on DAYS up to q", "as known in q the last told up to q"})
    static void triedAsToldUpToTheDay(Checker c) {
        RubbedWelds x = joints(1);
        x.days(2);
        x.attempt(0, false);
        x.days(1);
        x.attempt(0, true);
        c.due("the day ahead of it", 0, x.tried(0, 1));
        c.due("the day itself", 2, x.tried(0, 2));
        c.due("the day of the next word", 1, x.tried(0, 3));
        x.attempt(0, false);
        c.due("the last word of one day", 2, x.tried(0, 3));
        c.due("the day ahead is as it was", 2, x.tried(0, 2));
    }

    // Promise 27

    @Case(promise = 27, says = {"NONE: no such q", "as known in q (0 .. NOW)"})
    static void oddInNoSuchDay(Checker c) {
        RubbedWelds x = joints(1);
        x.attempt(0, false);
        c.due("day 0", 1, x.odd(0));
        c.refuses("day", -1, 0, 0, n -> x.odd(n));
        x.days(1);
        c.due("day 1", 1, x.odd(1));
        c.refuses("day", -1, 0, 1, n -> x.odd(n));
    }

    @Case(promise = 27, says = {"How many are ODD as known in q",
        "ODD as known in q: TRIED joints whose word is unlike their VERDICT"})
    static void oddOfNoneAndOfAll(Checker c) {
        c.due("without joints", 0, Given.still().odd(0));
        RubbedWelds x = joints(60);
        c.due("all untried", 0, x.odd(0));
        for (int i = 0; i < 60; i++) {
            x.attempt(i, false);
        }
        c.due("all good ones told bad", 60, x.odd(0));
        x.attempt(59, true);
        c.due("one told good again", 59, x.odd(0));
    }

    @Case(promise = 27, says = "TRIED joints whose word is unlike their VERDICT")
    static void oddOfEachWordAndVerdict(Checker c) {
        int[] settings = {GOOD, GOOD, BAD, BAD};
        for (int i = 0; i < 4; i++) {
            RubbedWelds x = Given.still();
            x.joint(0, settings[i]);
            x.attempt(0, i % 2 == 0);
            c.due(i < 2 ? "a good one" : "a bad one", i == 1 || i == 2 ? 1 : 0, x.odd(0));
        }
        // A stuck weld is not good either.
        RubbedWelds stuck = Given.cold(2);
        stuck.joint(0, 0);
        stuck.attempt(0, true);
        c.due("a stuck one told good", 1, stuck.odd(0));
    }

    @Case(promise = 27, says = "what was told on DAYS up to q")
    static void oddAsToldUpToTheDay(Checker c) {
        RubbedWelds x = joints(1);
        x.days(3);
        x.attempt(0, false);
        c.due("the day ahead", 0, x.odd(2));
        c.due("the day itself", 1, x.odd(3));
    }

    // Promise 28

    @Case(promise = 28, says = {"NONE: none is bad", "LEADS."})
    static void ledWithoutBadOnes(Checker c) {
        c.due("without joints", -1, Given.still().led(0));
        RubbedWelds x = joints(2);
        c.due("untried", -1, x.led(0));
        x.attempt(0, true);
        c.due("good alone", -1, x.led(0));
        x.attempt(1, false);
        c.due("one bad", 0, x.led(0));
        x.attempt(1, true);
        c.due("told good again", -1, x.led(0));
    }

    @Case(promise = 28, says = {"no such q", "as known in q (0 .. NOW)"})
    static void ledInNoSuchDay(Checker c) {
        RubbedWelds x = joints(1);
        x.attempt(0, false);
        c.due("day 0", 0, x.led(0));
        c.refuses("day", -1, 0, 0, n -> x.led(n));
        x.days(1);
        c.due("day 1", 0, x.led(1));
        c.refuses("day", -1, 0, 1, n -> x.led(n));
    }

    @Case(promise = 28, says = "(as known in q)")
    static void ledAsToldUpToTheDay(Checker c) {
        RubbedWelds x = joints(1);
        x.days(3);
        x.attempt(0, false);
        c.due("the day ahead", -1, x.led(2));
        c.due("the day itself", 0, x.led(3));
    }

    @Case(promise = 28, says = "of several the lowest")
    static void ledOfSeveralTheLowest(Checker c) {
        RubbedWelds x = jobs(6);
        tell(x, 5, 1, 1);
        c.due("the highest stuff alone", 5, x.led(0));
        tell(x, 3, 2, 2);
        c.due("2 of 4 and 1 of 2", 3, x.led(0));
        tell(x, 0, 1, 1);
        c.due("1 of 2, 2 of 4 and 1 of 2", 0, x.led(0));
        // Of a job of two stuffs that is tried bad, both have it.
        RubbedWelds y = Given.stuffs(2);
        y.job(1, 0, 2);
        tell(y, 0, 1, 0);
        c.due("one joint of two stuffs", 0, y.led(0));
    }

    @Case(promise = 28, says = {"with the greatest part of all TRIED JOINTS with it", "by cross products"})
    static void ledByPartsThatAreNear(Checker c) {
        RubbedWelds x = jobs(2);
        tell(x, 0, 14, 15);
        tell(x, 1, 15, 16);
        // 14 times 31 is 434, 15 times 29 is 435.
        c.due("14 of 29 and 15 of 31", 1, x.led(0));
        RubbedWelds y = jobs(2);
        tell(y, 0, 15, 16);
        tell(y, 1, 14, 15);
        c.due("15 of 31 and 14 of 29", 0, y.led(0));
    }

    @Case(promise = 28, says = "LEADS: of STUFFS the one in JOINTS that are TRIED bad")
    static void ledByPartNotByNumber(Checker c) {
        RubbedWelds x = jobs(2);
        tell(x, 0, 20, 1);
        tell(x, 1, 1, 0);
        c.due("20 of 21 and 1 of 1", 1, x.led(0));
        tell(x, 1, 0, 1);
        c.due("20 of 21 and 1 of 2", 0, x.led(0));
        x.joint(0, 0);
        c.due("an untried one does not count", 0, x.led(0));
    }
}
