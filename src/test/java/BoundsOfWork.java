/** Boundary cases of promises 29 to 32, of the 512 calls, and of calls that are refused. */
final class BoundsOfWork {
    private BoundsOfWork() {
    }

    /** The still job, with as many entries of setting 0. */
    private static RubbedWelds entries(int many) {
        RubbedWelds x = Given.still();
        x.job(0, 0, 3);
        for (int i = 0; i < many; i++) {
            x.work(0, 0);
        }
        return x;
    }

    private static void orderIs(Checker c, RubbedWelds x, int sum, int... due) {
        c.due("sum", sum, x.order(-1));
        for (int i = 0; i < due.length; i++) {
            c.due("entry " + i, due[i], x.order(i));
        }
        c.due("behind the last", -1, x.order(due.length));
    }

    // Promise 29

    @Case(promise = 29, says = {"NONE: no such ones", "DAY'S WORK: JOBS with SETTINGS"})
    static void workOfNoJob(Checker c) {
        c.due("without jobs", -1, Given.stuffs(1).work(0, 0));
        RubbedWelds x = entries(0);
        c.refuses("job", -1, 0, 1, n -> x.work(n, 0));
        c.due("no entry came of it", 0, x.count(6));
        c.due("job 0", 0, x.work(0, 0));
        c.due("job 1", 1, x.work(1, 0));
    }

    @Case(promise = 29, says = "NONE: no such ones")
    static void workOfNoSetting(Checker c) {
        RubbedWelds x = entries(0);
        c.refuses("setting", -1, 0, 728, n -> x.work(0, n));
        c.due("no entry came of it", 0, x.count(6));
        c.due("setting 0", 0, x.work(0, 0));
        c.due("setting 728", 1, x.work(0, 728));
        orderIs(c, x, 48, 0, 1);
    }

    @Case(promise = 29, says = {"there are eight", "(8 at most on the list)", "An entry of the DAY'S WORK: its number"})
    static void workIsFullWithEight(Checker c) {
        RubbedWelds x = entries(7);
        c.due("the eighth", 7, x.work(0, 0));
        c.due("the ninth", -1, x.work(0, 0));
        c.due("eight entries", 8, x.count(6));
        c.due("the order has eight", 7, x.order(7));
        c.due("and no ninth", -1, x.order(8));
    }

    @Case(promise = 29, says = "there are eight")
    static void workThatIsRefusedLeavesTheOrder(Checker c) {
        RubbedWelds x = entries(7);
        x.work(0, 728);
        c.due("sum", 48, x.order(-1));
        x.work(1, 364);
        x.work(2, 0);
        c.due("sum as it was", 48, x.order(-1));
    }

    // Promise 30

    @Case(promise = 30, says = "No entries")
    static void clearOfNoneOneAndEight(Checker c) {
        for (int many : new int[] {0, 1, 8}) {
            RubbedWelds x = entries(many);
            x.order(-1);
            x.clear();
            c.due("entries", 0, x.count(6));
            c.due("sum", -1, x.order(-1));
            c.due("first", -1, x.order(0));
            x.clear();
            c.due("entries, cleared twice", 0, x.count(6));
            c.due("numbers start anew", 0, x.work(0, 5));
            c.due("sum of one", 0, x.order(-1));
        }
    }

    @Case(promise = 30, says = "No entries")
    static void clearMakesRoomForEight(Checker c) {
        RubbedWelds x = entries(8);
        x.clear();
        for (int i = 0; i < 8; i++) {
            c.due("work", i, x.work(0, 91));
        }
        c.due("the ninth", -1, x.work(0, 91));
        orderIs(c, x, 0, 0, 1, 2, 3, 4, 5, 6, 7);
    }

    // Promise 31

    @Case(promise = 31, says = "NONE: no entries")
    static void orderWithoutEntries(Checker c) {
        RubbedWelds x = entries(0);
        c.due("sum", -1, x.order(-1));
        c.due("first", -1, x.order(0));
        x.work(0, 0);
        c.due("sum of one", 0, x.order(-1));
        c.due("first of one", 0, x.order(0));
    }

    @Case(promise = 31, says = "no such i")
    static void orderOfNoSuchPlace(Checker c) {
        RubbedWelds x = entries(3);
        c.due("sum", 0, x.order(RubbedWelds.NONE));
        c.due("place 0", 0, x.order(0));
        c.due("place 2", 2, x.order(2));
        c.due("place 7", -1, x.order(7));
        c.due("place 8", -1, x.order(8));
        c.refuses("place", -1, -1, 2, n -> x.order(n));
    }

    @Case(promise = 31, says = {"CHANGE from one to the next: 3 times the steps of turn, 2 times those of push, those "
        + "of loss", "CHEAPEST: the sum (i NONE), the i-th entry"})
    static void orderOfOneStepAndOfEight(Checker c) {
        int[] to = {81, 9, 1, 91, 648, 72, 8, 728};
        int[] due = {3, 2, 1, 6, 24, 16, 8, 48};
        for (int i = 0; i < 8; i++) {
            RubbedWelds x = entries(1);
            x.work(0, to[i]);
            orderIs(c, x, due[i], 0, 1);
        }
    }

    @Case(promise = 31, says = "and 10, if the JOB is another one")
    static void orderOfAnotherJob(Checker c) {
        RubbedWelds x = entries(1);
        x.work(0, 0);
        c.due("the same job", 0, x.order(-1));
        x.work(1, 0);
        c.due("another job", 10, x.order(-1));
        // A job just like another one is another one all the same.
        RubbedWelds y = Given.still();
        y.job(0, 0, 2);
        y.work(0, 0);
        y.work(1, 0);
        c.due("another job that is just like it", 10, y.order(-1));
        RubbedWelds z = entries(1);
        z.work(1, 728);
        c.due("another job and all steps", 58, z.order(-1));
    }

    @Case(promise = 31, says = "to the first one nothing")
    static void orderOfOneEntry(Checker c) {
        RubbedWelds x = entries(0);
        x.work(1, 728);
        orderIs(c, x, 0, 0);
    }

    @Case(promise = 31, says = "CHEAPEST: the order with the least sum")
    static void orderOfEightEntries(Checker c) {
        RubbedWelds x = entries(0);
        int[] settings = {4, 0, 7, 2, 5, 1, 6, 3};
        for (int setting : settings) {
            x.work(0, setting);
        }
        // By loss, up or down: 7 either way; entry 1 (loss 1) is lower than entry 2 (loss 8).
        orderIs(c, x, 7, 1, 5, 3, 7, 0, 4, 6, 2);
    }

    @Case(promise = 31, says = "of several the one with the lower entry where two first differ")
    static void orderOfSeveralTheLower(Checker c) {
        RubbedWelds alike = entries(8);
        orderIs(c, alike, 0, 0, 1, 2, 3, 4, 5, 6, 7);
        // Two of each job: which job is first is settled by entry 0, and so is which of it.
        RubbedWelds byTurns = entries(1);
        byTurns.work(1, 0);
        byTurns.work(0, 0);
        byTurns.work(1, 0);
        orderIs(c, byTurns, 10, 0, 2, 1, 3);
        // 1 step to either side of entry 0: it stands between, and entry 1 is first.
        RubbedWelds between = entries(0);
        between.work(0, 1);
        between.work(0, 2);
        between.work(0, 0);
        orderIs(c, between, 2, 1, 0, 2);
    }

    // Promise 32

    @Case(promise = 32, says = {"0 NOW, 1 STUFFS, 2 JOBS, 3 WINDOWS, 4 numbers on the TAPE, 5 JOINTS, 6 entries",
        "NONE for others"})
    static void countOfWhatIsZeroToSix(Checker c) {
        RubbedWelds x = Given.busy();
        int[] due = {3, 2, 2, 1, 5, 2, 3};
        for (int what = 0; what <= 6; what++) {
            c.due("count(" + what + ")", due[what], x.count(what));
        }
        c.refuses("count", -1, 0, 6, n -> x.count(n));
    }

    @Case(promise = 32, says = "0 NOW, 1 STUFFS, 2 JOBS, 3 WINDOWS, 4 numbers on the TAPE, 5 JOINTS, 6 entries")
    static void countOfNoneAndOfAllThatThereCanBe(Checker c) {
        RubbedWelds x = new RubbedWelds();
        for (int what = 0; what <= 6; what++) {
            c.due("none, " + what, 0, x.count(what));
        }
        x.days(500);
        x.days(500);
        for (int i = 0; i < 70; i++) {
            x.days(1);
            Given.stuffBut(x, 0, 1);
            x.job(0, 0, 2);
            x.window(0, 0, 0);
            x.joint(0, 0);
            x.work(0, 0);
        }
        int[] most = {1000, 6, 20, 10, 0, 60, 8};
        for (int what = 0; what <= 6; what++) {
            c.due("all, " + what, most[what], x.count(what));
        }
        RubbedWelds y = new RubbedWelds();
        for (int i = 0; i < 505; i++) {
            y.tell(0);
        }
        c.due("all, 4", 500, y.count(4));
    }

    // All promises

    @Case(promise = 32, says = "The constants: `NONE = -1`")
    static void the512thCallIsAnswered(Checker c) {
        RubbedWelds x = new RubbedWelds();
        Given.stuffBut(x, 0, 1);
        x.job(0, 0, 2);
        x.work(0, 0);
        x.work(0, 728);
        for (int call = 5; call < 512; call++) {
            x.tell(call % 32);
        }
        c.due("the 512th call", 48, x.order(RubbedWelds.NONE));
        c.due("NONE", -1, RubbedWelds.NONE);
    }

    /** A call that is refused, on a busy object. */
    private interface Refused {
        boolean on(RubbedWelds x);
    }

    private static void leavesAllAsItWas(Checker c, String what, Refused call) {
        RubbedWelds x = Given.busy();
        String before = Given.state(x);
        c.due(what + " is refused", true, call.on(x));
        c.due("state behind " + what, before, Given.state(x));
    }

    @Case(promise = 2, says = "None; refused")
    static void refusedDaysChangesNothing(Checker c) {
        leavesAllAsItWas(c, "days(-1)", x -> x.days(-1) == -1);
        leavesAllAsItWas(c, "days(501)", x -> x.days(501) == -1);
    }

    @Case(promise = 3, says = "None; refused")
    static void refusedStuffChangesNothing(Checker c) {
        leavesAllAsItWas(c, "stuff", x -> x.stuff(1, 1, 0, 50, 1, 50, 0, 501) == -1);
    }

    @Case(promise = 4, says = "None; refused")
    static void refusedBarChangesNothing(Checker c) {
        leavesAllAsItWas(c, "bar(0, 2)", x -> !x.bar(0, 2));
        RubbedWelds x = Given.busy();
        x.bar(0, 2);
        c.due("nothing was barred", 2, x.job(0, 1, 2));
    }

    @Case(promise = 5, says = "None; refused")
    static void refusedJobChangesNothing(Checker c) {
        leavesAllAsItWas(c, "job(0, 2, 2)", x -> x.job(0, 2, 2) == -1);
        leavesAllAsItWas(c, "job(0, 1, 7)", x -> x.job(0, 1, 7) == -1);
    }

    @Case(promise = 12, says = "None; refused")
    static void refusedWindowChangesNothing(Checker c) {
        leavesAllAsItWas(c, "window(2, 0, 0)", x -> x.window(2, 0, 0) == -1);
        leavesAllAsItWas(c, "window(0, 1, 0)", x -> x.window(0, 1, 0) == -1);
        leavesAllAsItWas(c, "window(0, 0, 6)", x -> x.window(0, 0, 6) == -1);
    }

    @Case(promise = 16, says = "None; refused")
    static void refusedTellChangesNothing(Checker c) {
        leavesAllAsItWas(c, "tell(32)", x -> x.tell(32) == -1);
        leavesAllAsItWas(c, "tell(-1)", x -> x.tell(-1) == -1);
    }

    @Case(promise = 17, says = "None; refused")
    static void refusedCopyChangesNothing(Checker c) {
        leavesAllAsItWas(c, "copy(1)", x -> x.copy(1) == -1);
    }

    @Case(promise = 18, says = "None; refused")
    static void refusedAlterChangesNothing(Checker c) {
        leavesAllAsItWas(c, "alter(5, 0)", x -> !x.alter(5, 0));
        leavesAllAsItWas(c, "alter(0, 32)", x -> !x.alter(0, 32));
    }

    @Case(promise = 19, says = "None; refused")
    static void refusedEndChangesNothing(Checker c) {
        leavesAllAsItWas(c, "end(6)", x -> !x.end(6));
        leavesAllAsItWas(c, "end(-1)", x -> !x.end(-1));
    }

    @Case(promise = 24, says = "None; refused")
    static void refusedJointChangesNothing(Checker c) {
        leavesAllAsItWas(c, "joint(2, 0)", x -> x.joint(2, 0) == -1);
        leavesAllAsItWas(c, "joint(0, 729)", x -> x.joint(0, 729) == -1);
    }

    @Case(promise = 25, says = "None; refused")
    static void refusedAttemptChangesNothing(Checker c) {
        leavesAllAsItWas(c, "attempt(2, false)", x -> !x.attempt(2, false));
        leavesAllAsItWas(c, "attempt(-1, true)", x -> !x.attempt(-1, true));
    }

    @Case(promise = 29, says = "None; refused")
    static void refusedWorkChangesNothing(Checker c) {
        leavesAllAsItWas(c, "work(2, 0)", x -> x.work(2, 0) == -1);
        leavesAllAsItWas(c, "work(0, 729)", x -> x.work(0, 729) == -1);
    }

    @Case(promise = 6, says = "None; refused")
    static void refusedToldChangesNothing(Checker c) {
        leavesAllAsItWas(c, "told(2, 0)", x -> Checker.throwsNoSuch(x, 2, 0));
        leavesAllAsItWas(c, "told(0, 9)", x -> Checker.throwsNoSuch(x, 0, 9));
    }

    @Case(promise = 9, says = "None; refused")
    static void refusedQuestionsOfWeldsChangeNothing(Checker c) {
        leavesAllAsItWas(c, "setting", x -> x.setting(1, 10, 1) == -1);
        leavesAllAsItWas(c, "verdict", x -> x.verdict(2, 0) == -1 && x.verdict(0, 729) == -1);
        leavesAllAsItWas(c, "ring", x -> x.ring(0, 0, 2, 0) == -1000000 && x.ring(0, 0, 0, 4) == -1000000);
        leavesAllAsItWas(c, "by", x -> x.by(2, 0) == -1 && x.by(0, -1) == -1);
        leavesAllAsItWas(c, "ticks", x -> x.ticks(2, 0) == -1 && x.ticks(0, 729) == -1);
        leavesAllAsItWas(c, "mended", x -> x.mended(2, 0) == -1 && x.mended(0, -1) == -1);
    }

    @Case(promise = 15, says = "None; refused")
    static void refusedQuestionsOfWindowsChangeNothing(Checker c) {
        leavesAllAsItWas(c, "good", x -> x.good(1) == -1);
        leavesAllAsItWas(c, "leaves", x -> x.leaves(1) == -1);
        leavesAllAsItWas(c, "proof", x -> x.proof(1, 0) == -1 && x.proof(0, 5) == -1);
        leavesAllAsItWas(c, "check", x -> x.check(1) == -2);
        leavesAllAsItWas(c, "greatest", x -> x.greatest(1, 0) == -1 && x.greatest(0, 3) == -1);
        leavesAllAsItWas(c, "edge", x -> x.edge(1, 162) == -1 && x.edge(0, 164) == -1);
    }

    @Case(promise = 26, says = "None; refused")
    static void refusedQuestionsOfDaysChangeNothing(Checker c) {
        leavesAllAsItWas(c, "tried", x -> x.tried(2, 0) == -1 && x.tried(1, 2) == -1 && x.tried(0, 4) == -1);
        leavesAllAsItWas(c, "odd", x -> x.odd(4) == -1 && x.odd(-1) == -1);
        leavesAllAsItWas(c, "led", x -> x.led(4) == -1 && x.led(-1) == -1);
        leavesAllAsItWas(c, "order", x -> x.order(3) == -1 && x.order(-2) == -1);
        leavesAllAsItWas(c, "count", x -> x.count(7) == -1 && x.count(-1) == -1);
    }
}
