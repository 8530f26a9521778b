import java.util.NoSuchElementException;
import java.util.Random;

/** Random runs of calls (the seeds are fixed), each answer held against that of PlainWelds. */
public final class ModelTests {
    private static final int RUNS = 120;
    private static final int CALLS = 512;

    private final Random random;
    private final Checker checker;
    private final int seed;
    private final RubbedWelds welds = new RubbedWelds();
    private final PlainWelds plain = new PlainWelds();
    private final boolean wild;
    private String call = "";

    private ModelTests(int seed, Checker checker) {
        this.seed = seed;
        this.checker = checker;
        random = new Random(seed);
        wild = seed % 4 == 0;
    }

    private int from(int least, int most) {
        return least + random.nextInt(most - least + 1);
    }

    /** Mostly a number of the bounds; now and then one at or beyond them, or a far one. */
    private int number(int least, int most) {
        int way = random.nextInt(wild ? 12 : 60);
        if (way == 0) {
            return least - 1;
        }
        if (way == 1) {
            return most + 1;
        }
        if (way == 2) {
            int[] far = {Integer.MIN_VALUE, Integer.MAX_VALUE, -1, -2, 0, 1000, 65536};
            return far[random.nextInt(far.length)];
        }
        if (way == 3) {
            return random.nextBoolean() ? least : most;
        }
        return most < least ? least : from(least, most);
    }

    private void due(long want, long got) {
        checker.due("seed " + seed + ": " + call, want, got);
    }

    private String name(String method, Object... arguments) {
        StringBuilder text = new StringBuilder(method).append('(');
        for (int i = 0; i < arguments.length; i++) {
            text.append(i == 0 ? "" : ", ").append(arguments[i]);
        }
        call = text.append(')').toString();
        return call;
    }

    private int[] marks() {
        if (random.nextInt(3) == 0) {
            return new int[] {number(1, 100), number(1, 100), number(0, 300), number(50, 900), number(1, 100),
                number(50, 999), number(0, 500), number(1, 500)};
        }
        // Marks near to what such a weld comes to, so that good and bad settings lie side by side.
        int soft = from(50, 400);
        return new int[] {number(5, 60), number(1, 20), number(0, 120), soft, number(1, 30),
            number(Math.max(50, soft - 100), soft + 150), number(0, 60), number(5, 200)};
    }

    private void stuff() {
        int[] m = marks();
        name("stuff", m[0], m[1], m[2], m[3], m[4], m[5], m[6], m[7]);
        due(plain.stuff(m[0], m[1], m[2], m[3], m[4], m[5], m[6], m[7]),
            welds.stuff(m[0], m[1], m[2], m[3], m[4], m[5], m[6], m[7]));
    }

    private void job() {
        int one = number(0, plain.count(1) - 1);
        int other = number(0, plain.count(1) - 1);
        int rings = number(2, 6);
        name("job", one, other, rings);
        due(plain.job(one, other, rings), welds.job(one, other, rings));
    }

    private void bar() {
        int one = number(0, plain.count(1) - 1);
        int other = number(0, plain.count(1) - 1);
        name("bar", one, other);
        due(plain.bar(one, other) ? 1 : 0, welds.bar(one, other) ? 1 : 0);
    }

    private static final int THROWN = 123456789;

    private void told() {
        int job = aJob();
        int what = number(0, 8);
        name("told", job, what);
        int want;
        int got;
        try {
            want = plain.told(job, what);
        } catch (NoSuchElementException e) {
            want = THROWN;
        }
        try {
            got = welds.told(job, what);
        } catch (NoSuchElementException e) {
            got = THROWN;
        }
        due(want, got);
    }

    private int aJob() {
        return number(0, plain.count(2) - 1);
    }

    private int aWindow() {
        return number(0, plain.count(3) - 1);
    }

    private int aSetting() {
        return number(0, 728);
    }

    private void window() {
        int job = aJob();
        int[] low = new int[3];
        int[] high = new int[3];
        for (int axis = 0; axis < 3; axis++) {
            low[axis] = from(1, 7);
            high[axis] = Math.min(9, low[axis] + from(0, random.nextInt(30) == 0 ? 6 : 5));
            if (random.nextInt(60) == 0) {
                high[axis] = Math.max(1, low[axis] - 1);
            }
        }
        int first = plain.setting(low[0], low[1], low[2]);
        int last = plain.setting(high[0], high[1], high[2]);
        if (random.nextInt(20) == 0) {
            first = aSetting();
            last = aSetting();
        }
        name("window", job, first, last);
        due(plain.window(job, first, last), welds.window(job, first, last));
    }

    private void tapeOfWindow() {
        int window = aWindow();
        name("copy", window);
        due(plain.copy(window), welds.copy(window));
        for (int i = from(0, 2); i > 0; i--) {
            alter();
        }
        name("check", window);
        due(plain.check(window), welds.check(window));
    }

    private void alter() {
        int place = number(0, plain.count(4) - 1);
        int told = number(0, random.nextBoolean() ? 1 : 31);
        name("alter", place, told);
        due(plain.alter(place, told) ? 1 : 0, welds.alter(place, told) ? 1 : 0);
    }

    private void toldProof() {
        int window = aWindow();
        due(plain.end(0) ? 1 : 0, welds.end(0) ? 1 : 0);
        for (int i = 0; i < 12; i++) {
            int place = plain.check(window);
            name("check", window);
            due(place, welds.check(window));
            if (place < 0) {
                return;
            }
            int told = number(0, 22);
            if (place < plain.count(4)) {
                name("alter", place, told);
                due(plain.alter(place, told) ? 1 : 0, welds.alter(place, told) ? 1 : 0);
            } else {
                name("tell", told);
                due(plain.tell(told), welds.tell(told));
            }
        }
    }

    private void tape() {
        switch (random.nextInt(4)) {
            case 0 -> tapeOfWindow();
            case 1 -> toldProof();
            case 2 -> {
                int n = number(0, plain.count(4));
                name("end", n);
                due(plain.end(n) ? 1 : 0, welds.end(n) ? 1 : 0);
            }
            default -> {
                int told = number(0, 31);
                name("tell", told);
                due(plain.tell(told), welds.tell(told));
                alter();
            }
        }
    }

    private void weld() {
        int job = aJob();
        int setting = aSetting();
        name("verdict", job, setting);
        due(plain.verdict(job, setting), welds.verdict(job, setting));
        name("by", job, setting);
        due(plain.by(job, setting), welds.by(job, setting));
        name("ticks", job, setting);
        due(plain.ticks(job, setting), welds.ticks(job, setting));
        int ring = number(0, 5);
        int what = number(0, 3);
        name("ring", job, setting, ring, what);
        due(plain.ring(job, setting, ring, what), welds.ring(job, setting, ring, what));
        if (random.nextInt(3) == 0) {
            name("mended", job, setting);
            due(plain.mended(job, setting), welds.mended(job, setting));
        }
    }

    private void askWindow() {
        int window = aWindow();
        name("good", window);
        due(plain.good(window), welds.good(window));
        name("leaves", window);
        due(plain.leaves(window), welds.leaves(window));
        int many = plain.proof(window, -1);
        name("proof", window, -1);
        due(many, welds.proof(window, -1));
        for (int i = 0; i <= many; i++) {
            name("proof", window, i);
            due(plain.proof(window, i), welds.proof(window, i));
        }
        int what = number(0, 2);
        name("greatest", window, what);
        due(plain.greatest(window, what), welds.greatest(window, what));
        int setting = aSetting();
        name("edge", window, setting);
        due(plain.edge(window, setting), welds.edge(window, setting));
    }

    private void joints() {
        int joint = number(0, plain.count(5) - 1);
        int q = number(0, plain.count(0));
        switch (random.nextInt(6)) {
            case 0 -> {
                int job = aJob();
                int setting = aSetting();
                name("joint", job, setting);
                due(plain.joint(job, setting), welds.joint(job, setting));
            }
            case 1 -> {
                boolean good = random.nextInt(3) != 0;
                name("attempt", joint, good);
                due(plain.attempt(joint, good) ? 1 : 0, welds.attempt(joint, good) ? 1 : 0);
            }
            case 2 -> {
                name("tried", joint, q);
                due(plain.tried(joint, q), welds.tried(joint, q));
            }
            case 3 -> {
                name("odd", q);
                due(plain.odd(q), welds.odd(q));
            }
            case 4 -> {
                name("led", q);
                due(plain.led(q), welds.led(q));
            }
            default -> {
                int n = number(0, random.nextInt(40) == 0 ? 500 : 9);
                name("days", n);
                due(plain.days(n), welds.days(n));
            }
        }
    }

    private void dayWork() {
        if (random.nextInt(12) == 0) {
            plain.clear();
            welds.clear();
        }
        int job = aJob();
        int setting = random.nextInt(3) == 0 ? plain.setting(from(1, 2), from(1, 2), from(1, 2)) : aSetting();
        name("work", job, setting);
        due(plain.work(job, setting), welds.work(job, setting));
        if (random.nextInt(4) == 0) {
            for (int i = -2; i <= plain.count(6); i++) {
                name("order", i);
                due(plain.order(i), welds.order(i));
            }
        }
    }

    private void step() {
        switch (random.nextInt(16)) {
            case 0 -> stuff();
            case 1 -> job();
            case 2 -> told();
            case 3 -> {
                if (random.nextInt(4) == 0) {
                    bar();
                }
            }
            case 4 -> window();
            case 5 -> {
                int turn = number(1, 9);
                int push = number(1, 9);
                int loss = number(1, 9);
                name("setting", turn, push, loss);
                due(plain.setting(turn, push, loss), welds.setting(turn, push, loss));
            }
            case 6, 7 -> weld();
            case 8 -> {
                if (random.nextInt(4) == 0) {
                    askWindow();
                }
            }
            case 9 -> tape();
            case 10 -> dayWork();
            case 11 -> {
                int what = number(0, 6);
                name("count", what);
                due(plain.count(what), welds.count(what));
            }
            default -> joints();
        }
    }

    private void run() {
        stuff();
        job();
        window();
        for (int i = 0; i < CALLS && checker.wrong() == 0; i++) {
            step();
        }
        for (int what = -1; what <= 7; what++) {
            name("count", what);
            due(plain.count(what), welds.count(what));
        }
    }

    public static void main(String[] args) {
        Checker checker = new Checker();
        for (int seed = 1; seed <= RUNS && checker.wrong() == 0; seed++) {
            new ModelTests(seed, checker).run();
        }
        checker.close();
    }
}
