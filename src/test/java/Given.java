/** Objects that tests start from. */
final class Given {
    /** Numbers that no stuff, job, window, joint, entry, place or ring has; 32 and 64 wrap around as shifts. */
    static final int[] NO_NUMBERS = {Integer.MIN_VALUE, -64, -32, -2, 32, 64, 1000, Integer.MAX_VALUE};

    private Given() {
    }

    static int setting(int turn, int push, int loss) {
        return 81 * (turn - 1) + 9 * (push - 1) + loss - 1;
    }

    /** A job of one stuff twice; its number is 0. */
    static RubbedWelds jobOf(int rings, int... m) {
        RubbedWelds x = new RubbedWelds();
        x.stuff(m[0], m[1], m[2], m[3], m[4], m[5], m[6], m[7]);
        x.job(0, 0, rings);
        return x;
    }

    /** A stuff that keeps its warmth: of a job of it with two rings, turn 3 and push 1, loss 1 is bad and 2 good. */
    static RubbedWelds still() {
        return jobOf(2, 10, 10, 0, 50, 1, 50, 10, 500);
    }

    /** A job of two rings that leads warmth fast; by setting 0 its rings peak at 209 and 230 and fall by 14 and 8. */
    static RubbedWelds leading(int hot, int need, int crack) {
        return jobOf(2, 100, 1, 300, 50, 1, hot, need, crack);
    }

    /** The window of the settings 162, 163, 171, 172 of the still stuff, of which the first alone is bad. */
    static RubbedWelds windowed() {
        RubbedWelds x = still();
        x.window(0, 162, 172);
        return x;
    }

    /** A job that no setting makes soft: all are stuck, and by setting 0 nothing even gets warm. */
    static RubbedWelds cold(int rings) {
        return jobOf(rings, 1, 100, 300, 900, 100, 50, 0, 500);
    }

    /**
     * The still stuff with HOT 60: ring 0 gets that warm by some settings alone. With G for good and B for bad, by
     * turns: 5 on BBBBBG, 34 on BGGGGG; by pushes: 86 on BBBBBG, 106 on BGBG, 107 on BGGGGG, 115 on GBGGGG,
     * 127 on BGGB; by losses: 110 on BBBBBG, 144 on BGGGGG.
     */
    static RubbedWelds hotter() {
        return jobOf(2, 10, 10, 0, 50, 1, 60, 10, 500);
    }

    static int stuffBut(RubbedWelds x, int what, int mark) {
        int[] m = {10, 10, 10, 100, 10, 100, 10, 10};
        m[what] = mark;
        return x.stuff(m[0], m[1], m[2], m[3], m[4], m[5], m[6], m[7]);
    }

    /** As many stuffs, all alike. */
    static RubbedWelds stuffs(int many) {
        RubbedWelds x = new RubbedWelds();
        for (int i = 0; i < many; i++) {
            stuffBut(x, 0, 10);
        }
        return x;
    }

    /** Something of everything, on day 3. */
    static RubbedWelds busy() {
        RubbedWelds x = windowed();
        x.stuff(20, 10, 5, 60, 2, 70, 20, 400);
        x.job(0, 1, 3);
        x.copy(0);
        x.joint(0, 162);
        x.days(3);
        x.joint(1, 163);
        x.attempt(0, true);
        x.attempt(1, false);
        x.work(0, 162);
        x.work(1, 0);
        x.work(0, 80);
        return x;
    }

    /** What a busy object answers now: a refused call must leave all of it as it was. */
    static String state(RubbedWelds x) {
        StringBuilder text = new StringBuilder();
        for (int what = 0; what <= 6; what++) {
            text.append(x.count(what)).append(' ');
        }
        for (int job = 0; job < 2; job++) {
            text.append(x.told(job, 0)).append(' ').append(x.verdict(job, 163)).append(' ');
        }
        text.append(x.proof(0, -1)).append(' ').append(x.proof(0, 1)).append(' ').append(x.check(0)).append(' ');
        for (int joint = 0; joint < 2; joint++) {
            text.append(x.tried(joint, 3)).append(' ');
        }
        text.append(x.odd(3)).append(' ').append(x.led(3)).append(' ');
        for (int i = -1; i <= 3; i++) {
            text.append(x.order(i)).append(' ');
        }
        return text.toString();
    }
}
