/**
 * Boundary cases of promises 8 to 11: the welds. What is due was reckoned by hand (the comments say how), but for
 * `mixed`, whose ten ticks of rubbing were reckoned by a program of their own, made from the document alone.
 */
final class BoundsOfWelds {
    private static final int NO_RING = -1000000;
    private static final int MIXED = Given.setting(7, 4, 2);

    private BoundsOfWelds() {
    }

    /** By the setting MIXED its rings peak at 753 and 645, give 87 and 15 out and fall by 48 and 30. */
    private static RubbedWelds mixed(int hot, int need, int crack) {
        return Given.jobOf(2, 64, 15, 300, 533, 84, hot, need, crack);
    }

    private static void judged(Checker c, String what, RubbedWelds x, int setting, int verdict, int by) {
        c.due("verdict, " + what, verdict, x.verdict(0, setting));
        c.due("by, " + what, by, x.by(0, setting));
    }

    private static void ringOf(Checker c, RubbedWelds x, int setting, int ring, int... due) {
        for (int what = 0; what < due.length; what++) {
            c.due("ring " + ring + ", " + what, due[what], x.ring(0, setting, ring, what));
        }
    }

    // Promise 8

    @Case(promise = 8, says = {"VERDICT of a WELD", "A WELD of a JOB by a SETTING"})
    static void verdictOfTheLowestAndHighestSetting(Checker c) {
        RubbedWelds x = Given.still();
        c.due("setting 0: ring 0 comes to 41", 2, x.verdict(0, 0));
        c.due("setting 728", 0, x.verdict(0, 728));
    }

    @Case(promise = 8, says = "NONE: no such JOB")
    static void verdictOfNoJob(Checker c) {
        c.due("without jobs", -1, Given.stuffs(1).verdict(0, 163));
        RubbedWelds x = Given.still();
        c.due("job 0", 0, x.verdict(0, 163));
        c.refuses("job", -1, 0, 0, n -> x.verdict(n, 163));
        x.job(0, 0, 2);
        c.due("job 1, made", 0, x.verdict(1, 163));
        c.refuses("job", -1, 0, 1, n -> x.verdict(n, 163));
    }

    @Case(promise = 8, says = "SETTING.")
    static void verdictOfNoSetting(Checker c) {
        RubbedWelds x = Given.still();
        c.refuses("setting", -1, 0, 728, n -> x.verdict(0, n));
        c.due("setting 729 more", -1, x.verdict(0, 729 + 163));
    }

    @Case(promise = 8, says = "2 PEAK below HOT")
    static void verdictOfPeakAtHot(Checker c) {
        judged(c, "PEAK 645 at HOT", mixed(645, 15, 48), MIXED, 0, -1);
        judged(c, "PEAK 645 one below HOT", mixed(646, 15, 48), MIXED, 2, 1);
        judged(c, "PEAK 753 at HOT", mixed(753, 15, 48), MIXED, 2, 1);
        judged(c, "PEAK 753 one below HOT", mixed(754, 15, 48), MIXED, 2, 0);
    }

    @Case(promise = 8, says = "3 OUT below NEED")
    static void verdictOfOutAtNeed(Checker c) {
        judged(c, "OUT 15 at NEED", mixed(645, 15, 48), MIXED, 0, -1);
        judged(c, "OUT 15 one below NEED", mixed(645, 16, 48), MIXED, 3, 1);
        judged(c, "OUT 87 at NEED", mixed(645, 87, 48), MIXED, 3, 1);
        judged(c, "OUT 87 one below NEED", mixed(645, 88, 48), MIXED, 3, 0);
    }

    @Case(promise = 8, says = "3 OUT below NEED")
    static void verdictOfNoOutAndNoNeed(Checker c) {
        // Rubbing ends behind tick 21 with ring 0 at 41: not soft, no OUT; HOT 50 is above that.
        judged(c, "PEAK 41", Given.jobOf(2, 10, 10, 0, 50, 1, 50, 0, 500), 0, 2, 0);
        // With SOFT 129 ring 0 comes to 80 in 60 ticks and gives nothing.
        judged(c, "OUT 0 and NEED 0", Given.jobOf(2, 10, 10, 0, 129, 1, 50, 0, 500), 0, 0, -1);
        judged(c, "OUT 0 and NEED 1", Given.jobOf(2, 10, 10, 0, 129, 1, 50, 1, 500), 0, 3, 0);
    }

    @Case(promise = 8, says = "4 FALL above CRACK")
    static void verdictOfFallAtCrack(Checker c) {
        judged(c, "FALL 48 at CRACK", mixed(645, 15, 48), MIXED, 0, -1);
        judged(c, "FALL 48 one above CRACK", mixed(645, 15, 47), MIXED, 4, 0);
        judged(c, "FALL 14 at CRACK", Given.leading(209, 500, 14), 0, 0, -1);
        judged(c, "FALL 14 one above CRACK", Given.leading(209, 500, 13), 0, 4, 0);
    }

    @Case(promise = 8, says = "(of one RING in this order)")
    static void verdictOfOneRingInOrder(Checker c) {
        judged(c, "PEAK ahead of OUT", mixed(754, 88, 48), MIXED, 2, 0);
        judged(c, "PEAK ahead of FALL", mixed(754, 15, 47), MIXED, 2, 0);
        judged(c, "OUT ahead of FALL", mixed(645, 88, 47), MIXED, 3, 0);
        judged(c, "PEAK ahead of OUT of ring 1", mixed(646, 16, 48), MIXED, 2, 1);
    }

    @Case(promise = 8, says = "else, of RINGS rising, the first that is short of a mark:")
    static void verdictOfRingsRising(Checker c) {
        judged(c, "FALL of ring 0 ahead of PEAK of ring 1", mixed(753, 15, 47), MIXED, 4, 0);
        judged(c, "OUT of ring 0 ahead of PEAK of ring 1", mixed(753, 88, 48), MIXED, 3, 0);
        judged(c, "FALL of ring 0 ahead of OUT of ring 1", mixed(645, 87, 47), MIXED, 4, 0);
    }

    @Case(promise = 8, says = {"VERDICT: 1 STUCK;", "60 TICKS went by without: STUCK"})
    static void verdictOfStuckAheadOfAll(Checker c) {
        judged(c, "stuck and cold", Given.cold(2), 0, 1, -1);
        // Ring 1 is soft, no mark is failed, but OUT is 15 behind tick 60.
        judged(c, "stuck and short of no mark", Given.jobOf(2, 10, 10, 0, 130, 1, 50, 0, 500), 0, 1, -1);
    }

    @Case(promise = 8, says = "else 0 GOOD")
    static void verdictOfGoodAtEveryMark(Checker c) {
        judged(c, "at every mark's edge", mixed(645, 15, 48), MIXED, 0, -1);
        // All rings of six are held at 5,000; the last one loses 4980 / 1000 to the air in each tick.
        judged(c, "at the greatest HOT and NEED", Given.jobOf(6, 100, 1, 1, 50, 1, 999, 500, 4), 728, 0, -1);
        judged(c, "one CRACK less", Given.jobOf(6, 100, 1, 1, 50, 1, 999, 500, 3), 728, 4, 5);
    }

    // Promise 9

    @Case(promise = 9, says = {"Of a RING of a WELD: 0 WARM at the end, 1 PEAK, 2 OUT, 3 FALL",
        "-1,000,000: no such ones"})
    static void ringOfWhatIsZeroToThree(Checker c) {
        RubbedWelds x = Given.leading(209, 500, 14);
        ringOf(c, x, 0, 0, 26, 209, 1457, 14);
        ringOf(c, x, 0, 1, 24, 230, 1165, 8);
        c.refuses("what", NO_RING, 0, 3, n -> x.ring(0, 0, 0, n));
    }

    @Case(promise = 9, says = {"-1,000,000: no such ones", "RINGS 0 .. (0 in the middle)"})
    static void ringOfTwoAndOfSix(Checker c) {
        RubbedWelds x = Given.cold(2);
        x.job(0, 0, 6);
        c.due("the first of two", 20, x.ring(0, 0, 0, 0));
        c.due("the last of two", 20, x.ring(0, 0, 1, 0));
        c.refuses("ring of two", NO_RING, 0, 1, n -> x.ring(0, 0, n, 0));
        c.due("the first of six", 20, x.ring(1, 0, 0, 0));
        c.due("the last of six", 20, x.ring(1, 0, 5, 0));
        c.refuses("ring of six", NO_RING, 0, 5, n -> x.ring(1, 0, n, 0));
    }

    @Case(promise = 9, says = "-1,000,000: no such ones")
    static void ringBehindTheLastIsNotLeftOver(Checker c) {
        RubbedWelds x = Given.leading(209, 500, 14);
        x.job(0, 0, 6);
        x.ring(1, 0, 5, 0);
        c.due("ring 2 of two, behind a weld of six", NO_RING, x.ring(0, 0, 2, 1));
        c.due("ring 5 of two, behind a weld of six", NO_RING, x.ring(0, 0, 5, 1));
        c.due("the weld of two is as ever", 209, x.ring(0, 0, 0, 1));
    }

    @Case(promise = 9, says = "-1,000,000: no such ones")
    static void ringOfNoJob(Checker c) {
        c.due("without jobs", NO_RING, Given.stuffs(1).ring(0, 0, 0, 0));
        RubbedWelds x = Given.still();
        c.due("job 0", 41, x.ring(0, 0, 0, 0));
        c.refuses("job", NO_RING, 0, 0, n -> x.ring(n, 0, 0, 0));
    }

    @Case(promise = 9, says = "-1,000,000: no such ones")
    static void ringOfNoSetting(Checker c) {
        RubbedWelds x = Given.still();
        c.due("setting 0", 41, x.ring(0, 0, 0, 0));
        // 20, 81 in tick 1 and half of that in tick 2, which gives enough.
        c.due("setting 728", 141, x.ring(0, 728, 0, 0));
        c.refuses("setting", NO_RING, 0, 728, n -> x.ring(0, n, 0, 0));
    }

    @Case(promise = 9, says = "WARM 20 each, OUT 0, PEAK 20, FALL 0")
    static void ringThatNothingWarms(Checker c) {
        RubbedWelds x = Given.cold(6);
        for (int ring = 0; ring < 6; ring++) {
            ringOf(c, x, 0, ring, 20, 20, 0, 0);
        }
    }

    @Case(promise = 9, says = {"In each TICK, of all RINGS at once (by WARM ahead of it):",
        "LED of a RING: to each RING beside it (WARM less its) times LEAD by 1,000"})
    static void ringsLeadByWarmAhead(Checker c) {
        // Behind tick 1 three rings are at 120, 220, 320. In tick 2 ring 1 leads 30 to ring 0 and gets 30 of ring 2,
        // and ring 2 leads 90 to the air; half the work is 50, 100, 150: 200, 320, 350.
        RubbedWelds x = Given.jobOf(3, 100, 1, 300, 50, 1, 50, 0, 500);
        c.due("PEAK of the ring between", 320, x.ring(0, 0, 1, 1));
        c.due("PEAK of the last ring", 350, x.ring(0, 0, 2, 1));
    }

    @Case(promise = 9, says = {"LED of a RING: to each RING beside it (WARM less its) times LEAD by 1,000",
        "WARM becomes less by LED, and more by WORK"})
    static void ringsLeadFromAThousandOn(Checker c) {
        // Rings at 1,020 and 2,020 with LEAD 1: ring 0 gets 1, ring 1 loses 1 and, to the air, 2; half the work is
        // 500 and 1,000: 1,521 and 3,017. In each of the 35 ticks behind that the same is led.
        RubbedWelds thousand = Given.jobOf(2, 50, 1, 1, 50, 1, 50, 0, 500);
        int setting = Given.setting(4, 5, 1);
        c.due("PEAK of ring 1", 3017, thousand.ring(0, setting, 1, 1));
        c.due("WARM of ring 0", 1521 + 35, thousand.ring(0, setting, 0, 0));
        c.due("WARM of ring 1", 3017 - 35 * 3, thousand.ring(0, setting, 1, 0));
    }

    @Case(promise = 9, says = "All divisions are cut towards 0")
    static void ringsLeadNothingBelowAThousand(Checker c) {
        // Rings at 1,019 and 2,018: 999 by 1,000 is 0 both ways, to the air goes 1; half the work is 499 and 999.
        RubbedWelds less = Given.jobOf(2, 37, 1, 1, 50, 1, 50, 0, 500);
        int setting = Given.setting(3, 9, 1);
        c.due("PEAK of ring 1", 3016, less.ring(0, setting, 1, 1));
        c.due("WARM of ring 0", 1518 + 35, less.ring(0, setting, 0, 0));
        c.due("WARM of ring 1", 3016 - 35 * 3, less.ring(0, setting, 1, 0));
        // Rings that never are a thousand apart, nor from the air: as if nothing could be led.
        RubbedWelds none = Given.jobOf(2, 10, 10, 1, 50, 1, 50, 10, 500);
        c.due("WARM of ring 0, nothing led", 41, none.ring(0, 0, 0, 0));
        c.due("WARM of ring 1, nothing led", 56, none.ring(0, 0, 1, 0));
    }

    @Case(promise = 9, says = "of the last RING, to the air besides, (WARM less 20) times LEAD by 1,000")
    static void lastRingLeadsToTheAir(Checker c) {
        // Ring 1 is at 1,020 behind tick 1, a thousand above the air: it loses 1, and half the work is 500.
        RubbedWelds thousand = Given.jobOf(2, 50, 2, 1, 50, 1, 50, 0, 500);
        c.due("PEAK, a thousand above the air", 1519, thousand.ring(0, Given.setting(4, 5, 1), 1, 1));
        // At 1,019 it loses nothing, and half the work is 499.
        RubbedWelds less = Given.jobOf(2, 37, 2, 1, 50, 1, 50, 0, 500);
        c.due("PEAK, one less", 1518, less.ring(0, Given.setting(3, 9, 1), 1, 1));
    }

    @Case(promise = 9, says = "RUBBING: WORK is turn times push times (number of the RING and 1) times RUB by HEAT")
    static void workBelowOneIsNone(Checker c) {
        RubbedWelds x = Given.jobOf(6, 1, 100, 0, 900, 1, 50, 0, 500);
        int fives = Given.setting(5, 5, 1);
        c.due("75 by 100 in each of 60 ticks", 20, x.ring(0, fives, 2, 0));
        c.due("100 by 100 in each of 60 ticks", 80, x.ring(0, fives, 3, 0));
        int sevens = Given.setting(7, 7, 1);
        c.due("98 by 100 in each of 60 ticks", 20, x.ring(0, sevens, 1, 0));
        c.due("147 by 100 in each of 60 ticks", 80, x.ring(0, sevens, 2, 0));
        c.due("196 by 100 in each of 60 ticks", 80, x.ring(0, sevens, 3, 0));
        c.due("245 by 100 in each of 60 ticks", 140, x.ring(0, sevens, 4, 0));
    }

    @Case(promise = 9, says = {"half of that, if the RING was SOFT (WARM at SOFT or above)", "(by WARM ahead)"})
    static void ringIsSoftAtSoft(Checker c) {
        int setting = Given.setting(5, 6, 1);
        // Ring 0 is at 50 behind tick 1. If soft, tick 2 adds half of 30 and OUT 6; 12 times 16 in each of pressing.
        ringOf(c, Given.jobOf(2, 1, 1, 0, 50, 1, 50, 0, 500), setting, 0, 65, 65, 6 + 5 * 12 * 16, 0);
        // With SOFT 51 it is not: tick 2 adds 30 and no OUT.
        ringOf(c, Given.jobOf(2, 1, 1, 0, 51, 1, 50, 0, 500), setting, 0, 80, 80, 5 * 12 * 30, 0);
    }

    @Case(promise = 9, says = {"half of that, if the RING was SOFT", "All divisions are cut towards 0"})
    static void halfOfOneWorkIsNone(Checker c) {
        // Work 1 in each tick for ring 0: it stands still once it is at SOFT.
        RubbedWelds x = Given.jobOf(2, 1, 9, 0, 50, 9, 50, 0, 500);
        c.due("WARM at SOFT", 50, x.ring(0, Given.setting(1, 9, 9), 0, 0));
    }

    @Case(promise = 9, says = {"What was SOFT gives OUT: push times (WARM less SOFT and 1) by GIVE",
        "All divisions are cut towards 0"})
    static void outBelowOneIsNone(Checker c) {
        int setting = Given.setting(1, 9, 9);
        // Ring 0 is at SOFT from tick 31 on: 9 by GIVE in rubbing, which takes 34 ticks with GIVE 9; then 18 by GIVE.
        c.due("9 by 9, then 18 by 9", 4 + 5 * 2, Given.jobOf(2, 1, 9, 0, 50, 9, 50, 0, 500).ring(0, setting, 0, 2));
        c.due("9 by 10, then 18 by 10", 5, Given.jobOf(2, 1, 9, 0, 50, 10, 50, 0, 500).ring(0, setting, 0, 2));
        c.due("9 by 18, then 18 by 18", 5, Given.jobOf(2, 1, 9, 0, 50, 18, 50, 0, 500).ring(0, setting, 0, 2));
        c.due("9 by 19, then 18 by 19", 0, Given.jobOf(2, 1, 9, 0, 50, 19, 50, 0, 500).ring(0, setting, 0, 2));
    }

    @Case(promise = 9, says = "PRESSING, 5 TICKS: no WORK; what was SOFT gives OUT with push times 2")
    static void pressingIsFiveTicks(Checker c) {
        // Nothing is led: ring 0 stays at 65, and each tick of pressing gives 12 times 16.
        RubbedWelds x = Given.jobOf(2, 1, 1, 0, 50, 1, 50, 0, 500);
        ringOf(c, x, Given.setting(5, 6, 1), 0, 65, 65, 6 + 5 * 12 * 16);
    }

    @Case(promise = 9, says = {"PRESSING, 5 TICKS", "COOLING, 30 TICKS: no WORK, no OUT"})
    static void pressingAndCoolingAre35Ticks(Checker c) {
        // Ring 1 is at 1,519 behind rubbing, and loses 1 to the air in each tick from there on.
        RubbedWelds x = Given.jobOf(2, 50, 2, 1, 50, 1, 50, 0, 500);
        int setting = Given.setting(4, 5, 1);
        ringOf(c, x, setting, 1, 1519 - 35, 1519);
        // OUT of it: 5 times 971 in tick 2, then 10 times (1,470, 1,469 .. 1,466), and none in cooling.
        c.due("OUT", 5 * 971 + 10 * (1470 + 1469 + 1468 + 1467 + 1466), x.ring(0, setting, 1, 2));
    }

    @Case(promise = 9, says = "FALL of a RING is the greatest by which its WARM became less in one TICK of these")
    static void fallIsOfCoolingAlone(Checker c) {
        // In pressing the rings of the leading job fall by 18 and 72 at most, in cooling by 14 and 8.
        RubbedWelds x = Given.leading(50, 0, 500);
        c.due("FALL of ring 0", 14, x.ring(0, 0, 0, 3));
        c.due("FALL of ring 1", 8, x.ring(0, 0, 1, 3));
    }

    @Case(promise = 9, says = {"FALL of a RING is the greatest by which its WARM became less in one TICK of these",
        "PEAK is the greatest WARM so far"})
    static void ringThatRisesTillTheEnd(Checker c) {
        // Ring 0 gets 1 in each tick of pressing and cooling: it never falls, and its PEAK is its last WARM.
        RubbedWelds x = Given.jobOf(2, 50, 1, 1, 50, 1, 50, 0, 500);
        int setting = Given.setting(4, 5, 1);
        c.due("WARM", 1556, x.ring(0, setting, 0, 0));
        c.due("PEAK", 1556, x.ring(0, setting, 0, 1));
        c.due("FALL", 0, x.ring(0, setting, 0, 3));
    }

    @Case(promise = 9, says = "PEAK is the greatest WARM so far")
    static void peakCountsPressing(Checker c) {
        // Ring 0 is at 200 behind rubbing, and gets 9 of ring 1 in the first tick of pressing.
        c.due("PEAK", 209, Given.leading(50, 0, 500).ring(0, 0, 0, 1));
    }

    @Case(promise = 9, says = "(WARM is held at 5,000 at most")
    static void warmIsHeldAt5000(Checker c) {
        // Two ticks, the second one of half the work: 20 + 3,318 + 1,659, 20 + 3,320 + 1,660, 20 + 3,321 + 1,660.
        RubbedWelds below = Given.jobOf(2, 79, 1, 0, 50, 1, 50, 0, 500);
        ringOf(c, below, Given.setting(6, 7, 1), 0, 4997, 4997);
        RubbedWelds at = Given.jobOf(2, 83, 1, 0, 50, 1, 50, 0, 500);
        ringOf(c, at, Given.setting(5, 8, 1), 0, 5000, 5000);
        RubbedWelds above = Given.jobOf(2, 41, 1, 0, 50, 1, 50, 0, 500);
        ringOf(c, above, Given.setting(9, 9, 1), 0, 5000, 5000);
        RubbedWelds most = Given.jobOf(6, 100, 1, 0, 50, 1, 50, 0, 500);
        ringOf(c, most, 728, 5, 5000, 5000, 100000, 0);
    }

    @Case(promise = 9, says = "OUT of a RING at 100,000.)")
    static void outIsHeldAt100000(Checker c) {
        int setting = Given.setting(5, 4, 1);
        // 4 times 1,509 (1,500, 1,491) in tick 2, then 5 times 8 times 2,349 (2,350, 2,351).
        c.due("4 below", 99996, Given.jobOf(2, 84, 1, 0, 192, 1, 50, 0, 500).ring(0, setting, 0, 2));
        c.due("just there", 100000, Given.jobOf(2, 85, 1, 0, 221, 1, 50, 0, 500).ring(0, setting, 0, 2));
        c.due("4 above", 100000, Given.jobOf(2, 86, 1, 0, 250, 1, 50, 0, 500).ring(0, setting, 0, 2));
    }

    @Case(promise = 9, says = "(it is pressed and cooled all the same)")
    static void stuckIsPressedAndCooled(Checker c) {
        // Ring 1 is at 135 behind tick 60 and gave 15; in each tick of pressing it gives 2 times 6.
        ringOf(c, Given.jobOf(2, 10, 10, 0, 130, 1, 50, 0, 500), 0, 1, 135, 135, 15 + 5 * 12, 0);
        // Stuck at 80 above the air with LEAD 300: it is cold again at the end, and fell on the way.
        RubbedWelds x = Given.jobOf(2, 50, 1, 300, 900, 1, 50, 0, 500);
        c.due("stuck", 1, x.verdict(0, 0));
        c.due("cooled", true, x.ring(0, 0, 1, 0) < x.ring(0, 0, 1, 1));
        c.due("fell", true, x.ring(0, 0, 1, 3) > 0);
    }

    // Promise 10

    @Case(promise = 10, says = {"NONE: GOOD", "RING: which"})
    static void byOfGoodIsNone(Checker c) {
        c.due("good", -1, mixed(645, 15, 48).by(0, MIXED));
        c.due("one step from good", 1, mixed(646, 15, 48).by(0, MIXED));
    }

    @Case(promise = 10, says = "STUCK")
    static void byOfStuckIsNone(Checker c) {
        c.due("not stuck yet, ring 0 is short", 0, Given.jobOf(2, 10, 10, 0, 129, 1, 81, 0, 500).by(0, 0));
        c.due("stuck, ring 0 is short too", -1, Given.jobOf(2, 10, 10, 0, 130, 1, 81, 0, 500).by(0, 0));
    }

    @Case(promise = 10, says = "The RING that VERDICT is by")
    static void byOfTheFirstAndTheLastRing(Checker c) {
        c.due("the first of two", 0, mixed(754, 15, 48).by(0, MIXED));
        c.due("the last of two", 1, mixed(753, 15, 48).by(0, MIXED));
        c.due("the last of six", 5, Given.jobOf(6, 100, 1, 1, 50, 1, 999, 500, 3).by(0, 728));
    }

    @Case(promise = 10, says = "no such ones")
    static void byOfNoJob(Checker c) {
        c.due("without jobs", -1, Given.stuffs(1).by(0, 0));
        RubbedWelds x = Given.still();
        c.due("job 0", 0, x.by(0, 0));
        c.refuses("job", -1, 0, 0, n -> x.by(n, 0));
    }

    @Case(promise = 10, says = "no such ones")
    static void byOfNoSetting(Checker c) {
        // HOT is far above what either of them comes to.
        RubbedWelds x = Given.jobOf(2, 10, 10, 0, 50, 1, 999, 10, 500);
        c.due("setting 0", 0, x.by(0, 0));
        c.due("setting 728", 0, x.by(0, 728));
        c.refuses("setting", -1, 0, 728, n -> x.by(0, n));
    }

    // Promise 11

    @Case(promise = 11, says = {"How many TICKS it RUBBED",
        "It goes on till the sum of OUT of all RINGS is loss times 20 or more behind a TICK"})
    static void ticksTillLossTimes20(Checker c) {
        int lossOne = Given.setting(9, 1, 1);
        // Ring 1 is at 92 behind tick 2, ring 0 at 56: tick 3 gives 92 - 73 + 1 = 20, or 19.
        c.due("OUT 20 behind tick 3", 3, Given.jobOf(2, 2, 1, 0, 73, 1, 50, 0, 500).ticks(0, lossOne));
        c.due("OUT 19 behind tick 3", 4, Given.jobOf(2, 2, 1, 0, 74, 1, 50, 0, 500).ticks(0, lossOne));
        int lossNine = Given.setting(2, 1, 9);
        // Ring 1 is at 420 behind tick 1, ring 0 at 220: tick 2 gives 420 - 241 + 1 = 180, or 179.
        c.due("OUT 180 behind tick 2", 2, Given.jobOf(2, 100, 1, 0, 241, 1, 50, 0, 500).ticks(0, lossNine));
        c.due("OUT 179 behind tick 2", 3, Given.jobOf(2, 100, 1, 0, 242, 1, 50, 0, 500).ticks(0, lossNine));
    }

    @Case(promise = 11, says = "the sum of OUT of all RINGS")
    static void ticksBySumOfAllRings(Checker c) {
        // Rings at 53 and 86 behind tick 1 give 4 by 2 and 37 by 2 in tick 2: 2 and 18.
        c.due("2 and 18", 2, Given.jobOf(2, 11, 1, 0, 50, 2, 50, 0, 500).ticks(0, Given.setting(3, 1, 1)));
        // With SOFT 52 it is 2 by 2 and 35 by 2: 1 and 17.
        c.due("1 and 17", 3, Given.jobOf(2, 11, 1, 0, 52, 2, 50, 0, 500).ticks(0, Given.setting(3, 1, 1)));
    }

    @Case(promise = 11, says = "behind a TICK, or 60 TICKS went by without: STUCK")
    static void ticksAre60AtMost(Checker c) {
        // Ring 1 comes to 20 + 2 a tick, and to 1 a tick once soft. OUT behind ticks 59 and 60:
        // SOFT 127: 20; SOFT 128: 15, 21; SOFT 129: 14, 20; SOFT 130: 10, 15, and 21 only behind a tick 61.
        int[] ticks = {59, 60, 60, 60};
        for (int i = 0; i < 4; i++) {
            RubbedWelds x = Given.jobOf(2, 10, 10, 0, 127 + i, 1, 50, 0, 500);
            c.due("ticks, SOFT " + (127 + i), ticks[i], x.ticks(0, 0));
            c.due("stuck, SOFT " + (127 + i), i == 3, x.verdict(0, 0) == 1);
        }
        c.due("ticks of what never gets soft", 60, Given.cold(2).ticks(0, 0));
    }

    @Case(promise = 11, says = "How many TICKS it RUBBED")
    static void ticksAreTwoAtLeast(Checker c) {
        // In tick 1 all is at 20 ahead of it, and SOFT is 50 at least: nothing gives OUT.
        c.due("the fastest", 2, Given.jobOf(6, 100, 1, 0, 50, 1, 50, 0, 500).ticks(0, Given.setting(9, 9, 1)));
    }

    @Case(promise = 11, says = "NONE: no such ones")
    static void ticksOfNoJob(Checker c) {
        c.due("without jobs", -1, Given.stuffs(1).ticks(0, 0));
        RubbedWelds x = Given.still();
        c.due("job 0", 21, x.ticks(0, 0));
        c.refuses("job", -1, 0, 0, n -> x.ticks(n, 0));
    }

    @Case(promise = 11, says = "NONE: no such ones")
    static void ticksOfNoSetting(Checker c) {
        RubbedWelds x = Given.still();
        c.due("setting 0", 21, x.ticks(0, 0));
        c.due("setting 728", 2, x.ticks(0, 728));
        c.refuses("setting", -1, 0, 728, n -> x.ticks(0, n));
    }
}
