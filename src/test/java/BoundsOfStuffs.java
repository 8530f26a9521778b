/** Boundary cases of promises 1 to 7: the days, stuffs, barred ones, jobs and settings. */
final class BoundsOfStuffs {
    private BoundsOfStuffs() {
    }

    // Promise 1

    @Case(promise = 1, says = {"DAY 0", "DAYS: NOW is 0 at first"})
    static void newObjectIsOnDayZero(Checker c) {
        RubbedWelds x = new RubbedWelds();
        c.due("count of NOW", 0, x.count(0));
        c.due("day 0 is known", 0, x.odd(0));
        c.due("day 1 is not", -1, x.odd(1));
    }

    @Case(promise = 1, says = "no STUFFS")
    static void newObjectHasNoStuff(Checker c) {
        RubbedWelds x = new RubbedWelds();
        c.due("count of stuffs", 0, x.count(1));
        c.due("job of stuff 0", -1, x.job(0, 0, 2));
        c.due("bar of stuff 0", false, x.bar(0, 0));
        c.due("the first stuff", 0, Given.stuffBut(x, 0, 1));
        c.due("job of it", 0, x.job(0, 0, 2));
    }

    @Case(promise = 1, says = "no STUFFS")
    static void newObjectHasNothingElse(Checker c) {
        RubbedWelds x = new RubbedWelds();
        for (int what = 2; what <= 6; what++) {
            c.due("count " + what, 0, x.count(what));
        }
        c.dueToThrow(x, 0, 0);
        c.due("verdict", -1, x.verdict(0, 0));
        c.due("ring", -1000000, x.ring(0, 0, 0, 0));
        c.due("window", -1, x.window(0, 0, 0));
        c.due("good", -1, x.good(0));
        c.due("check", -2, x.check(0));
        c.due("joint", -1, x.joint(0, 0));
        c.due("attempt", false, x.attempt(0, true));
        c.due("tried", -1, x.tried(0, 0));
        c.due("led", -1, x.led(0));
        c.due("work", -1, x.work(0, 0));
        c.due("order", -1, x.order(-1));
    }

    @Case(promise = 1, says = "no STUFFS")
    static void newObjectStandsApartFromOthers(Checker c) {
        RubbedWelds full = Given.stuffs(6);
        full.days(500);
        RubbedWelds x = new RubbedWelds();
        c.due("its day", 0, x.count(0));
        c.due("its first stuff", 0, Given.stuffBut(x, 0, 1));
        c.due("the other's stuffs", 6, full.count(1));
    }

    // Promise 2

    @Case(promise = 2, says = {"n DAYS (0 .. 500): NOW", "NONE: n,"})
    static void daysTakesNoneAtLeast(Checker c) {
        RubbedWelds x = new RubbedWelds();
        x.days(7);
        c.due("days(0)", 7, x.days(0));
        c.due("days(-1)", -1, x.days(-1));
        c.due("NOW stays", 7, x.count(0));
    }

    @Case(promise = 2, says = {"n DAYS (0 .. 500): NOW", "NONE: n,"})
    static void daysTakes500AtMost(Checker c) {
        RubbedWelds x = new RubbedWelds();
        c.due("days(501)", -1, x.days(501));
        c.due("NOW stays", 0, x.count(0));
        c.due("days(500)", 500, x.days(500));
    }

    @Case(promise = 2, says = {"NOW would be above 1,000", "1,000 at most"})
    static void daysComesTo1000AtMost(Checker c) {
        RubbedWelds x = new RubbedWelds();
        x.days(500);
        c.due("to day 999", 999, x.days(499));
        c.due("to day 1,001", -1, x.days(2));
        c.due("NOW stays", 999, x.count(0));
        c.due("to day 1,000", 1000, x.days(1));
        c.due("one more", -1, x.days(1));
        c.due("none more", 1000, x.days(0));
        c.due("the last day is known", 0, x.odd(1000));
        c.due("the day behind it is not", -1, x.odd(1001));
    }

    @Case(promise = 2, says = "NOW would be above 1,000")
    static void daysComesTo1000InTwoGreatestSteps(Checker c) {
        RubbedWelds x = new RubbedWelds();
        x.days(500);
        c.due("days(500) twice", 1000, x.days(500));
        RubbedWelds y = new RubbedWelds();
        y.days(500);
        y.days(1);
        c.due("days(500) behind day 501", -1, y.days(500));
        c.due("NOW stays", 501, y.count(0));
        c.due("days(499) behind day 501", 1000, y.days(499));
    }

    @Case(promise = 2, says = "NONE: n,")
    static void daysDoesNotWrapAround(Checker c) {
        RubbedWelds x = new RubbedWelds();
        x.days(500);
        x.days(500);
        int[] far = {Integer.MAX_VALUE, Integer.MIN_VALUE, Integer.MAX_VALUE - 999, Integer.MIN_VALUE + 1000, 65536};
        for (int n : far) {
            c.due("days(" + n + ")", -1, x.days(n));
        }
        c.due("NOW stays", 1000, x.count(0));
    }

    // Promise 3

    private static void least(Checker c, int what, int least) {
        RubbedWelds x = new RubbedWelds();
        c.due("one below the least", -1, Given.stuffBut(x, what, least - 1));
        c.due("far below", -1, Given.stuffBut(x, what, Integer.MIN_VALUE));
        c.due("no stuff came of it", 0, x.count(1));
        c.due("the least", 0, Given.stuffBut(x, what, least));
        x.job(0, 0, 2);
        c.due("the mark is kept", least, x.told(0, what));
    }

    private static void most(Checker c, int what, int most) {
        RubbedWelds x = new RubbedWelds();
        c.due("one above the most", -1, Given.stuffBut(x, what, most + 1));
        c.due("far above", -1, Given.stuffBut(x, what, Integer.MAX_VALUE));
        c.due("no stuff came of it", 0, x.count(1));
        c.due("the most", 0, Given.stuffBut(x, what, most));
        x.job(0, 0, 2);
        c.due("the mark is kept", most, x.told(0, what));
    }

    @Case(promise = 3, says = {"RUB (1 .. 100)", "NONE: out of bounds"})
    static void stuffTakesRub1AtLeast(Checker c) {
        least(c, 0, 1);
    }

    @Case(promise = 3, says = {"RUB (1 .. 100)", "NONE: out of bounds"})
    static void stuffTakesRub100AtMost(Checker c) {
        most(c, 0, 100);
    }

    @Case(promise = 3, says = {"HEAT (1 .. 100)", "NONE: out of bounds"})
    static void stuffTakesHeat1AtLeast(Checker c) {
        least(c, 1, 1);
    }

    @Case(promise = 3, says = {"HEAT (1 .. 100)", "NONE: out of bounds"})
    static void stuffTakesHeat100AtMost(Checker c) {
        most(c, 1, 100);
    }

    @Case(promise = 3, says = {"LEAD (0 .. 300)", "NONE: out of bounds"})
    static void stuffTakesLead0AtLeast(Checker c) {
        least(c, 2, 0);
    }

    @Case(promise = 3, says = {"LEAD (0 .. 300)", "NONE: out of bounds"})
    static void stuffTakesLead300AtMost(Checker c) {
        most(c, 2, 300);
    }

    @Case(promise = 3, says = {"SOFT (50 .. 900)", "NONE: out of bounds"})
    static void stuffTakesSoft50AtLeast(Checker c) {
        least(c, 3, 50);
    }

    @Case(promise = 3, says = {"SOFT (50 .. 900)", "NONE: out of bounds"})
    static void stuffTakesSoft900AtMost(Checker c) {
        most(c, 3, 900);
    }

    @Case(promise = 3, says = {"GIVE (1 .. 100)", "NONE: out of bounds"})
    static void stuffTakesGive1AtLeast(Checker c) {
        least(c, 4, 1);
    }

    @Case(promise = 3, says = {"GIVE (1 .. 100)", "NONE: out of bounds"})
    static void stuffTakesGive100AtMost(Checker c) {
        most(c, 4, 100);
    }

    @Case(promise = 3, says = {"HOT (50 .. 999)", "NONE: out of bounds"})
    static void stuffTakesHot50AtLeast(Checker c) {
        least(c, 5, 50);
    }

    @Case(promise = 3, says = {"HOT (50 .. 999)", "NONE: out of bounds"})
    static void stuffTakesHot999AtMost(Checker c) {
        most(c, 5, 999);
    }

    @Case(promise = 3, says = {"NEED (0 .. 500)", "NONE: out of bounds"})
    static void stuffTakesNeed0AtLeast(Checker c) {
        least(c, 6, 0);
    }

    @Case(promise = 3, says = {"NEED (0 .. 500)", "NONE: out of bounds"})
    static void stuffTakesNeed500AtMost(Checker c) {
        most(c, 6, 500);
    }

    @Case(promise = 3, says = {"CRACK (1 .. 500)", "NONE: out of bounds"})
    static void stuffTakesCrack1AtLeast(Checker c) {
        least(c, 7, 1);
    }

    @Case(promise = 3, says = {"CRACK (1 .. 500)", "NONE: out of bounds"})
    static void stuffTakesCrack500AtMost(Checker c) {
        most(c, 7, 500);
    }

    @Case(promise = 3, says = {"A STUFF: its number", "each with"})
    static void stuffTakesAllLeastAndAllMost(Checker c) {
        RubbedWelds x = new RubbedWelds();
        c.due("all least", 0, x.stuff(1, 1, 0, 50, 1, 50, 0, 1));
        c.due("all most", 1, x.stuff(100, 100, 300, 900, 100, 999, 500, 500));
        c.due("all one below", -1, x.stuff(0, 0, -1, 49, 0, 49, -1, 0));
        c.due("all one above", -1, x.stuff(101, 101, 301, 901, 101, 1000, 501, 501));
        c.due("two of them", 2, x.count(1));
    }

    @Case(promise = 3, says = {"there are six", "STUFFS (6 at most)"})
    static void stuffIsFullWithSix(Checker c) {
        RubbedWelds x = Given.stuffs(5);
        c.due("the sixth", 5, Given.stuffBut(x, 0, 1));
        c.due("the seventh", -1, Given.stuffBut(x, 0, 1));
        c.due("the seventh, out of bounds too", -1, Given.stuffBut(x, 0, 0));
        c.due("six", 6, x.count(1));
        c.due("job of the sixth", 0, x.job(5, 5, 2));
        c.due("job of a seventh", -1, x.job(6, 5, 2));
    }

    @Case(promise = 3, says = "NONE: out of bounds")
    static void stuffThatIsRefusedTakesNoNumber(Checker c) {
        RubbedWelds x = Given.stuffs(2);
        for (int i = 0; i < 10; i++) {
            c.due("out of bounds", -1, Given.stuffBut(x, i % 8, -1));
        }
        c.due("the next one", 2, Given.stuffBut(x, 0, 1));
    }

    // Promise 4

    @Case(promise = 4, says = "False: no such ones")
    static void barOfNoStuff(Checker c) {
        RubbedWelds x = Given.stuffs(3);
        c.refuses("one", 0, 0, 2, n -> x.bar(n, 0) ? 1 : 0);
        c.refuses("other", 0, 0, 2, n -> x.bar(0, n) ? 1 : 0);
        c.refuses("one twice", 0, 0, 2, n -> x.bar(n, n) ? 1 : 0);
        c.due("0 and 0 are not barred by 32 or 64", 0, x.job(0, 0, 2));
        c.due("the lowest and the highest", true, x.bar(0, 2));
    }

    @Case(promise = 4, says = "False: no such ones")
    static void barOfNoStuffBehindTheSixth(Checker c) {
        RubbedWelds x = Given.stuffs(6);
        c.due("bar(6, 5)", false, x.bar(6, 5));
        c.due("bar(5, 6)", false, x.bar(5, 6));
        c.due("bar of the highest", true, x.bar(5, 4));
        c.due("bar of the highest twice", true, x.bar(5, 5));
    }

    @Case(promise = 4, says = "False: no such ones")
    static void barWithoutStuffs(Checker c) {
        RubbedWelds x = new RubbedWelds();
        c.due("bar(0, 0)", false, x.bar(0, 0));
        Given.stuffBut(x, 0, 1);
        c.due("bar(0, 1) with one", false, x.bar(0, 1));
        c.due("bar(0, 0) with one", true, x.bar(0, 0));
    }

    @Case(promise = 4, says = {"they are", "Two STUFFS are BARRED"})
    static void barOfTwoThatAre(Checker c) {
        RubbedWelds x = Given.stuffs(3);
        c.due("bar", true, x.bar(2, 1));
        c.due("again", false, x.bar(2, 1));
        c.due("the other way", false, x.bar(1, 2));
        c.due("they stay barred", -1, x.job(1, 2, 2));
    }

    @Case(promise = 4, says = "(one twice, too)")
    static void barOfOneTwice(Checker c) {
        RubbedWelds x = Given.stuffs(2);
        c.due("bar(1, 1)", true, x.bar(1, 1));
        c.due("again", false, x.bar(1, 1));
        c.due("job of it twice", -1, x.job(1, 1, 2));
        c.due("job of it and another", 0, x.job(1, 0, 2));
        c.due("job of the other twice", 1, x.job(0, 0, 2));
    }

    @Case(promise = 4, says = "Two STUFFS are BARRED")
    static void barOfEveryPair(Checker c) {
        RubbedWelds x = Given.stuffs(6);
        for (int one = 0; one < 6; one++) {
            for (int other = one; other < 6; other++) {
                c.due("bar(" + one + ", " + other + ")", true, x.bar(one, other));
            }
        }
        for (int one = 0; one < 6; one++) {
            for (int other = 0; other < 6; other++) {
                c.due("job of barred " + one + ", " + other, -1, x.job(one, other, 2));
                c.due("barred already " + one + ", " + other, false, x.bar(one, other));
            }
        }
    }

    @Case(promise = 4, says = "Two STUFFS are BARRED")
    static void barOfTwoBarsNoOthers(Checker c) {
        RubbedWelds x = Given.stuffs(3);
        x.bar(0, 1);
        c.due("one of them twice", 0, x.job(0, 0, 2));
        c.due("the other one twice", 1, x.job(1, 1, 2));
        c.due("one and a third", 2, x.job(0, 2, 2));
        c.due("the other and a third", 3, x.job(2, 1, 2));
    }

    // Promise 5

    @Case(promise = 5, says = {"NONE: no such STUFFS", "A JOB: its number"})
    static void jobOfNoStuff(Checker c) {
        c.due("without stuffs", -1, new RubbedWelds().job(0, 0, 2));
        RubbedWelds x = Given.stuffs(2);
        c.refuses("one", -1, 0, 1, n -> x.job(n, 0, 2));
        c.refuses("other", -1, 0, 1, n -> x.job(0, n, 2));
        c.due("no jobs", 0, x.count(2));
        c.due("job of the lowest and the highest", 0, x.job(0, 1, 2));
    }

    @Case(promise = 5, says = {"BARRED", "of two BARRED to each other there is none"})
    static void jobOfBarredOnes(Checker c) {
        RubbedWelds x = Given.stuffs(2);
        c.due("ahead of it", 0, x.job(0, 1, 2));
        x.bar(1, 0);
        c.due("job(0, 1, 2)", -1, x.job(0, 1, 2));
        c.due("job(1, 0, 2)", -1, x.job(1, 0, 2));
        c.due("the job from ahead stands", 2, x.told(0, 8));
        c.due("and can be used", 0, x.joint(0, 0));
    }

    @Case(promise = 5, says = {"JOBS (20 at most): two STUFFS", "also one twice"})
    static void jobOfOneTwice(Checker c) {
        RubbedWelds x = Given.stuffs(1);
        c.due("one twice", 0, x.job(0, 0, 2));
        c.due("the same once more", 1, x.job(0, 0, 2));
    }

    @Case(promise = 5, says = {"RINGS,", "RINGS 2 .. 6"})
    static void jobHasTwoRingsAtLeast(Checker c) {
        RubbedWelds x = Given.stuffs(1);
        c.due("one ring", -1, x.job(0, 0, 1));
        c.due("no ring", -1, x.job(0, 0, 0));
        c.refuses("rings", -1, 2, 6, n -> x.job(0, 0, n));
        c.due("two rings", 0, x.job(0, 0, 2));
        c.due("told of two rings", 2, x.told(0, 8));
    }

    @Case(promise = 5, says = {"RINGS,", "RINGS 2 .. 6"})
    static void jobHasSixRingsAtMost(Checker c) {
        RubbedWelds x = Given.stuffs(1);
        c.due("seven rings", -1, x.job(0, 0, 7));
        c.due("rings far above", -1, x.job(0, 0, Integer.MAX_VALUE));
        c.due("six rings", 0, x.job(0, 0, 6));
        c.due("told of six rings", 6, x.told(0, 8));
    }

    @Case(promise = 5, says = {"there are 20", "JOBS (20 at most)"})
    static void jobIsFullWith20(Checker c) {
        RubbedWelds x = Given.stuffs(1);
        for (int i = 0; i < 20; i++) {
            c.due("job", i, x.job(0, 0, 2 + i % 5));
        }
        c.due("the 21st", -1, x.job(0, 0, 2));
        c.due("20 jobs", 20, x.count(2));
        c.due("rings of the 20th", 6, x.told(19, 8));
        c.dueToThrow(x, 20, 8);
    }

    @Case(promise = 5, says = {"Of a JOB: RUB, HEAT, LEAD, GIVE are half of both STUFFS' sums",
        "All divisions are cut towards 0"})
    static void jobHasHalfOfSumsCut(Checker c) {
        RubbedWelds x = new RubbedWelds();
        x.stuff(1, 1, 0, 50, 1, 50, 0, 1);
        x.stuff(2, 2, 1, 50, 2, 50, 0, 1);
        x.stuff(99, 99, 299, 50, 99, 50, 0, 1);
        x.stuff(100, 100, 300, 50, 100, 50, 0, 1);
        x.job(0, 1, 2);
        x.job(3, 2, 2);
        int[] halves = {0, 1, 2, 4};
        int[] low = {1, 1, 0, 1};
        int[] high = {99, 99, 299, 99};
        for (int i = 0; i < 4; i++) {
            c.due("half of the least odd sum, " + halves[i], low[i], x.told(0, halves[i]));
            c.due("half of the most odd sum, " + halves[i], high[i], x.told(1, halves[i]));
        }
    }

    @Case(promise = 5, says = "SOFT, CRACK the lesser, HOT, NEED the greater ones")
    static void jobHasLesserAndGreaterOnes(Checker c) {
        RubbedWelds x = new RubbedWelds();
        x.stuff(1, 1, 0, 50, 1, 998, 499, 499);
        x.stuff(1, 1, 0, 51, 1, 999, 500, 500);
        x.job(0, 1, 2);
        x.job(1, 0, 2);
        x.job(1, 1, 2);
        for (int job = 0; job < 2; job++) {
            c.due("SOFT", 50, x.told(job, 3));
            c.due("HOT", 999, x.told(job, 5));
            c.due("NEED", 500, x.told(job, 6));
            c.due("CRACK", 499, x.told(job, 7));
        }
        c.due("SOFT of one twice", 51, x.told(2, 3));
        c.due("CRACK of one twice", 500, x.told(2, 7));
    }

    @Case(promise = 5, says = "NONE: no such STUFFS")
    static void jobThatIsRefusedTakesNoNumber(Checker c) {
        RubbedWelds x = Given.stuffs(2);
        x.bar(0, 0);
        x.job(0, 0, 2);
        x.job(1, 1, 1);
        x.job(1, 2, 2);
        c.due("the first one taken", 0, x.job(1, 1, 2));
    }

    // Promise 6

    @Case(promise = 6, says = {"Of a JOB: 0 RUB, 1 HEAT, 2 LEAD, 3 SOFT, 4 GIVE, 5 HOT, 6 NEED, 7 CRACK, 8 RINGS",
        "what"})
    static void toldOfWhatIsZeroToEight(Checker c) {
        RubbedWelds x = Given.jobOf(5, 11, 12, 13, 140, 15, 160, 17, 18);
        int[] due = {11, 12, 13, 140, 15, 160, 17, 18, 5};
        for (int what = 0; what <= 8; what++) {
            c.due("told(0, " + what + ")", due[what], x.told(0, what));
        }
        c.refuses("what", 1, 0, 8, n -> Checker.throwsNoSuch(x, 0, n) ? 1 : 0);
    }

    @Case(promise = 6, says = "NoSuchElementException: no such JOB")
    static void toldOfNoJob(Checker c) {
        RubbedWelds x = Given.still();
        x.job(0, 0, 6);
        c.refuses("job", 1, 0, 1, n -> Checker.throwsNoSuch(x, n, 0) ? 1 : 0);
        c.due("the lowest job", 2, x.told(0, 8));
        c.due("the highest job", 6, x.told(1, 8));
    }

    @Case(promise = 6, says = "NoSuchElementException: no such JOB")
    static void toldWithoutJobs(Checker c) {
        c.dueToThrow(new RubbedWelds(), 0, 0);
        RubbedWelds x = Given.stuffs(1);
        c.dueToThrow(x, 0, 0);
        c.dueToThrow(x, 0, 9);
        x.job(0, 0, 2);
        c.due("with one", 10, x.told(0, 0));
    }

    // Promise 7

    @Case(promise = 7, says = {"NONE: out of bounds", "SETTING: turn, push, loss (1 .. 9 each)"})
    static void settingHasTurn1To9(Checker c) {
        RubbedWelds x = new RubbedWelds();
        c.due("turn 0", -1, x.setting(0, 1, 1));
        c.due("turn 1", 0, x.setting(1, 1, 1));
        c.due("turn 9", 648, x.setting(9, 1, 1));
        c.due("turn 10", -1, x.setting(10, 1, 1));
    }

    @Case(promise = 7, says = {"NONE: out of bounds", "SETTING: turn, push, loss (1 .. 9 each)"})
    static void settingHasPush1To9(Checker c) {
        RubbedWelds x = new RubbedWelds();
        c.due("push 0", -1, x.setting(2, 0, 1));
        c.due("push 1", 81, x.setting(2, 1, 1));
        c.due("push 9", 153, x.setting(2, 9, 1));
        c.due("push 10", -1, x.setting(2, 10, 1));
    }

    @Case(promise = 7, says = {"NONE: out of bounds", "SETTING: turn, push, loss (1 .. 9 each)"})
    static void settingHasLoss1To9(Checker c) {
        RubbedWelds x = new RubbedWelds();
        c.due("loss 0", -1, x.setting(2, 2, 0));
        c.due("loss 1", 90, x.setting(2, 2, 1));
        c.due("loss 9", 98, x.setting(2, 2, 9));
        c.due("loss 10", -1, x.setting(2, 2, 10));
    }

    @Case(promise = 7, says = {"The SETTING of turn, push, loss", "as one number: 81 times (turn less 1) and 9 times "
        + "(push less 1) and (loss less 1): 0 .. 728"})
    static void settingIsZeroTo728(Checker c) {
        RubbedWelds x = new RubbedWelds();
        c.due("the lowest", 0, x.setting(1, 1, 1));
        c.due("one loss more", 1, x.setting(1, 1, 2));
        c.due("one push more", 9, x.setting(1, 2, 1));
        c.due("one turn more", 81, x.setting(2, 1, 1));
        c.due("one loss less than the highest", 727, x.setting(9, 9, 8));
        c.due("the highest", 728, x.setting(9, 9, 9));
    }

    @Case(promise = 7, says = "NONE: out of bounds")
    static void settingOfFarNumbersDoesNotWrapAround(Checker c) {
        RubbedWelds x = new RubbedWelds();
        int[] far = {Integer.MIN_VALUE, Integer.MIN_VALUE + 1, -1, 65537, Integer.MAX_VALUE};
        for (int n : far) {
            c.due("turn " + n, -1, x.setting(n, 1, 1));
            c.due("push " + n, -1, x.setting(1, n, 1));
            c.due("loss " + n, -1, x.setting(1, 1, n));
            c.due("all " + n, -1, x.setting(n, n, n));
        }
    }
}
