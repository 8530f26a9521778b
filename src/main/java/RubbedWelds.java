import java.util.NoSuchElementException;

/** Welds by rubbing, and least proofs of windows, as the document's promises 1 to 32 say. */
public final class RubbedWelds {
    public static final int NONE = -1;

    private static final int NO_RING = -1000000;
    private static final int NO_WINDOW = -2;

    private static final int LAST_DAY = 1000;
    private static final int MOST_DAYS = 500;
    private static final int MOST_STUFFS = 6;
    private static final int MOST_JOBS = 20;
    private static final int MOST_WINDOWS = 10;
    private static final int LEAST_RINGS = 2;
    private static final int MOST_RINGS = 6;

    private static final int RUB = 0;
    private static final int HEAT = 1;
    private static final int LEAD = 2;
    private static final int SOFT = 3;
    private static final int GIVE = 4;
    private static final int HOT = 5;
    private static final int NEED = 6;
    private static final int CRACK = 7;
    private static final int RINGS = 8;
    private static final int MARKS = 8;
    private static final int[] LEAST_MARK = {1, 1, 0, 50, 1, 50, 0, 1};
    private static final int[] MOST_MARK = {100, 100, 300, 900, 100, 999, 500, 500};

    private static final int SETTINGS = 729;
    private static final int MOST_ON_AXIS = 9;
    private static final int MOST_IN_WINDOW = 6;
    private static final int AXES = 3;
    private static final int[] STEP = {81, 9, 1};

    private final Stuff[] stuffRow = new Stuff[MOST_STUFFS];
    private final Job[] jobRow = new Job[MOST_JOBS];
    private final Window[] windowRow = new Window[MOST_WINDOWS];
    private final Bench bench = new Bench();
    private final Walk walk = new Walk();
    private final Tape tape = new Tape();
    private final Book book = new Book();
    private final DayList dayList = new DayList();
    private Prover prover;
    private int now;
    private int stuffs;
    private int jobs;
    private int windows;

    public RubbedWelds() {
    }

    public int days(int n) {
        if (n < 0 || n > MOST_DAYS || now + n > LAST_DAY) {
            return NONE;
        }
        now += n;
        return now;
    }

    public int stuff(int rub, int heat, int lead, int soft, int give, int hot, int need, int crack) {
        if (stuffs == MOST_STUFFS) {
            return NONE;
        }
        int[] marks = {rub, heat, lead, soft, give, hot, need, crack};
        for (int what = 0; what < MARKS; what++) {
            if (marks[what] < LEAST_MARK[what] || marks[what] > MOST_MARK[what]) {
                return NONE;
            }
        }
        stuffRow[stuffs] = new Stuff(marks);
        stuffs++;
        return stuffs - 1;
    }

    public boolean bar(int one, int other) {
        Stuff first = stuffAt(one);
        Stuff second = stuffAt(other);
        if (first == null || second == null || first.isBarred(other)) {
            return false;
        }
        first.barFrom(other);
        second.barFrom(one);
        return true;
    }

    public int job(int one, int other, int rings) {
        Stuff first = stuffAt(one);
        Stuff second = stuffAt(other);
        if (first == null || second == null || first.isBarred(other)) {
            return NONE;
        }
        if (rings < LEAST_RINGS || rings > MOST_RINGS || jobs == MOST_JOBS) {
            return NONE;
        }
        Job made = new Job(one, other);
        made.join(first, second, rings);
        jobRow[jobs] = made;
        jobs++;
        return jobs - 1;
    }

    public int told(int job, int what) throws NoSuchElementException {
        Job it = jobAt(job);
        if (it == null || what < 0 || what > RINGS) {
            throw new NoSuchElementException();
        }
        return it.marks[what];
    }

    public int setting(int turn, int push, int loss) {
        if (!isOnAxis(turn) || !isOnAxis(push) || !isOnAxis(loss)) {
            return NONE;
        }
        return STEP[0] * (turn - 1) + STEP[1] * (push - 1) + STEP[2] * (loss - 1);
    }

    public int verdict(int job, int setting) {
        return weldOf(job, setting) ? bench.verdict : NONE;
    }

    public int ring(int job, int setting, int ring, int what) {
        Job it = jobAt(job);
        if (it == null || ring < 0 || ring >= it.marks[RINGS] || !weldOf(job, setting)) {
            return NO_RING;
        }
        switch (what) {
            case 0:
                return bench.warm[ring];
            case 1:
                return bench.peak[ring];
            case 2:
                return bench.out[ring];
            case 3:
                return bench.fall[ring];
            default:
                return NO_RING;
        }
    }

    public int by(int job, int setting) {
        return weldOf(job, setting) ? bench.faultRing : NONE;
    }

    public int ticks(int job, int setting) {
        return weldOf(job, setting) ? bench.rubbed : NONE;
    }

    public int window(int job, int from, int to) {
        Job it = jobAt(job);
        if (it == null || !isSetting(from) || !isSetting(to) || windows == MOST_WINDOWS) {
            return NONE;
        }
        for (int axis = 0; axis < AXES; axis++) {
            int span = along(to, axis) - along(from, axis);
            if (span < 0 || span >= MOST_IN_WINDOW) {
                return NONE;
            }
        }
        windowRow[windows] = new Window(it, from, to);
        windows++;
        return windows - 1;
    }

    public int good(int window) {
        Window it = windowAt(window);
        if (it == null) {
            return NONE;
        }
        int found = 0;
        for (int setting = it.from; setting <= it.to; setting++) {
            if (isInside(it.from, it.to, setting) && bench.makesGood(it.job, setting)) {
                found++;
            }
        }
        return found;
    }

    public int leaves(int window) {
        Window it = windowAt(window);
        return it == null ? NONE : (leastRow(it).length + 1) / 2;
    }

    public int proof(int window, int i) {
        Window it = windowAt(window);
        if (it == null) {
            return NONE;
        }
        int[] row = leastRow(it);
        if (i == NONE) {
            return row.length;
        }
        return i >= 0 && i < row.length ? row[i] : NONE;
    }

    public int tell(int number) {
        return tape.append(number) ? tape.size : NONE;
    }

    public int copy(int window) {
        Window it = windowAt(window);
        if (it == null) {
            return NONE;
        }
        tape.become(leastRow(it));
        return tape.size;
    }

    public boolean alter(int place, int number) {
        return tape.replace(place, number);
    }

    public boolean end(int n) {
        return tape.shorten(n);
    }

    public int check(int window) {
        Window it = windowAt(window);
        if (it == null) {
            return NO_WINDOW;
        }
        walk.begin(it.from, it.to);
        for (int place = 0; place < tape.size; place++) {
            if (!walk.advance() || !mayStand(it.job, tape.numbers[place])) {
                return place;
            }
            walk.follow(tape.numbers[place]);
        }
        return walk.waiting == 0 ? NONE : tape.size;
    }

    public int greatest(int window, int what) {
        Window it = windowAt(window);
        if (it == null) {
            return NONE;
        }
        // The greatest box is found with the proof, in the same table.
        if (leastRow(it).length == 0 || it.most == 0) {
            return NONE;
        }
        switch (what) {
            case 0:
                return it.mostFrom;
            case 1:
                return it.mostTo;
            case 2:
                return it.most;
            default:
                return NONE;
        }
    }

    public int edge(int window, int setting) {
        Window it = windowAt(window);
        if (it == null || !isSetting(setting) || !isInside(it.from, it.to, setting)) {
            return NONE;
        }
        boolean good = bench.makesGood(it.job, setting);
        int nearest = NONE;
        int least = 0;
        for (int other = it.from; other <= it.to; other++) {
            int steps = stepsBetween(setting, other);
            boolean nearer = nearest == NONE || steps < least;
            if (nearer && isInside(it.from, it.to, other) && bench.makesGood(it.job, other) != good) {
                nearest = other;
                least = steps;
            }
        }
        return nearest;
    }

    public int mended(int job, int setting) {
        Job it = jobAt(job);
        if (it == null || !isSetting(setting)) {
            return NONE;
        }
        int bits = 0;
        for (int axis = 0; axis < AXES; axis++) {
            int at = along(setting, axis);
            if (at > 0 && bench.makesGood(it, setting - STEP[axis])) {
                bits |= 1 << 2 * axis;
            }
            if (at < MOST_ON_AXIS - 1 && bench.makesGood(it, setting + STEP[axis])) {
                bits |= 2 << 2 * axis;
            }
        }
        return bits;
    }

    public int joint(int job, int setting) {
        Job it = jobAt(job);
        if (it == null || !isSetting(setting)) {
            return NONE;
        }
        return book.enter(it, setting, now);
    }

    public boolean attempt(int joint, boolean good) {
        return book.note(joint, good, now);
    }

    public int tried(int joint, int q) {
        Joint it = book.jointAt(joint);
        if (it == null || !isKnownDay(q) || it.day > q) {
            return NONE;
        }
        book.recall(q);
        return book.words[joint];
    }

    public int odd(int q) {
        if (!isKnownDay(q)) {
            return NONE;
        }
        book.recall(q);
        return book.countOdd(bench);
    }

    public int led(int q) {
        if (!isKnownDay(q)) {
            return NONE;
        }
        book.recall(q);
        return book.worstStuff(stuffs);
    }

    public int work(int job, int setting) {
        if (jobAt(job) == null || !isSetting(setting)) {
            return NONE;
        }
        return dayList.enter(job, setting);
    }

    public void clear() {
        dayList.empty();
    }

    public int order(int i) {
        if (dayList.size == 0 || i < NONE || i >= dayList.size) {
            return NONE;
        }
        dayList.plan();
        return i == NONE ? dayList.sum : dayList.cheapest[i];
    }

    public int count(int what) {
        switch (what) {
            case 0:
                return now;
            case 1:
                return stuffs;
            case 2:
                return jobs;
            case 3:
                return windows;
            case 4:
                return tape.size;
            case 5:
                return book.joints;
            case 6:
                return dayList.size;
            default:
                return NONE;
        }
    }

    private Stuff stuffAt(int number) {
        return number >= 0 && number < stuffs ? stuffRow[number] : null;
    }

    private Job jobAt(int number) {
        return number >= 0 && number < jobs ? jobRow[number] : null;
    }

    private Window windowAt(int number) {
        return number >= 0 && number < windows ? windowRow[number] : null;
    }

    private boolean isKnownDay(int q) {
        return q >= 0 && q <= now;
    }

    /** Puts the weld on the bench; false, if there is no such one. */
    private boolean weldOf(int job, int setting) {
        Job it = jobAt(job);
        if (it == null || !isSetting(setting)) {
            return false;
        }
        bench.weld(it, setting);
        return true;
    }

    /** Searches a window once: neither its job nor its box ever changes. */
    private int[] leastRow(Window window) {
        int[] row = window.row;
        if (row == null) {
            if (prover == null) {
                prover = new Prover();
            }
            prover.fill(bench, window);
            prover.findGreatest(window);
            row = prover.rowOf(walk, window);
            window.row = row;
        }
        return row;
    }

    /** Whether a number of a told row may stand for the box that the walk is at. */
    private boolean mayStand(Job job, int number) {
        if (number > 1) {
            return walk.mayCut(number);
        }
        for (int setting = walk.from; setting <= walk.to; setting++) {
            if (isInside(walk.from, walk.to, setting) && bench.makesGood(job, setting) != (number == 0)) {
                return false;
            }
        }
        return true;
    }

    private static boolean isOnAxis(int number) {
        return number >= 1 && number <= MOST_ON_AXIS;
    }

    private static boolean isSetting(int number) {
        return number >= 0 && number < SETTINGS;
    }

    /** The place of a setting on an axis: 0 .. 8. */
    private static int along(int setting, int axis) {
        return setting / STEP[axis] % MOST_ON_AXIS;
    }

    private static boolean isInside(int from, int to, int setting) {
        for (int axis = 0; axis < AXES; axis++) {
            int at = along(setting, axis);
            if (at < along(from, axis) || at > along(to, axis)) {
                return false;
            }
        }
        return true;
    }

    private static int stepsOn(int axis, int one, int other) {
        return Math.abs(along(one, axis) - along(other, axis));
    }

    private static int stepsBetween(int one, int other) {
        return stepsOn(0, one, other) + stepsOn(1, one, other) + stepsOn(2, one, other);
    }

    private static final class Stuff {
        private final int[] marks;
        private int barred;

        private Stuff(int[] marks) {
            this.marks = marks;
        }

        private boolean isBarred(int other) {
            return (barred >> other & 1) == 1;
        }

        private void barFrom(int other) {
            barred |= 1 << other;
        }
    }

    private static final class Job {
        private static final int WORDS = 12;

        private final int one;
        private final int other;
        private final int[] marks = new int[MARKS + 1];
        // One bit a setting, as a byte each would take thirty times the room.
        private final long[] judged = new long[WORDS];
        private final long[] found = new long[WORDS];

        private Job(int one, int other) {
            this.one = one;
            this.other = other;
        }

        private void join(Stuff first, Stuff second, int rings) {
            for (int what = 0; what < MARKS; what++) {
                marks[what] = joined(what, first.marks[what], second.marks[what]);
            }
            marks[RINGS] = rings;
        }

        private static int joined(int what, int first, int second) {
            switch (what) {
                case SOFT:
                case CRACK:
                    return Math.min(first, second);
                case HOT:
                case NEED:
                    return Math.max(first, second);
                default:
                    return (first + second) / 2;
            }
        }

        private boolean has(int stuff) {
            return one == stuff || other == stuff;
        }

        private boolean isJudged(int setting) {
            return (judged[setting / 64] >> setting % 64 & 1) == 1;
        }

        private boolean isFoundGood(int setting) {
            return (found[setting / 64] >> setting % 64 & 1) == 1;
        }

        private void judge(int setting, boolean good) {
            judged[setting / 64] |= 1L << setting % 64;
            if (good) {
                found[setting / 64] |= 1L << setting % 64;
            }
        }
    }

    /** Makes welds, and keeps the last one: callers mostly ask several things of the same. */
    private static final class Bench {
        private static final int COLD = 20;
        private static final int MOST_WARM = 5000;
        private static final int MOST_OUT = 100000;
        private static final int MOST_RUBBING = 60;
        private static final int PRESSING = 5;
        private static final int COOLING = 30;

        private final int[] warm = new int[MOST_RINGS];
        private final int[] peak = new int[MOST_RINGS];
        private final int[] out = new int[MOST_RINGS];
        private final int[] fall = new int[MOST_RINGS];
        private Job job;
        private int setting;
        private int rubbed;
        private int verdict;
        private int faultRing;

        private boolean makesGood(Job job, int setting) {
            if (!job.isJudged(setting)) {
                weld(job, setting);
            }
            return job.isFoundGood(setting);
        }

        private void weld(Job job, int setting) {
            if (this.job == job && this.setting == setting) {
                return;
            }
            this.job = job;
            this.setting = setting;
            layCold();
            boolean stuck = !rub(job, setting);
            press(job, setting);
            cool(job);
            verdict = stuck ? 1 : firstFault(job);
            job.judge(setting, verdict == 0);
        }

        private void layCold() {
            for (int ring = 0; ring < MOST_RINGS; ring++) {
                warm[ring] = COLD;
                peak[ring] = COLD;
                out[ring] = 0;
                fall[ring] = 0;
            }
            rubbed = 0;
            faultRing = NONE;
        }

        /** False, if it is stuck. */
        private boolean rub(Job job, int setting) {
            int push = along(setting, 1) + 1;
            int work = (along(setting, 0) + 1) * push * job.marks[RUB];
            int wanted = (along(setting, 2) + 1) * 20;
            boolean moved = true;
            int given = 0;
            while (rubbed < MOST_RUBBING && given < wanted) {
                // What stands still once does so for good: then only the ticks go on.
                if (moved) {
                    moved = tick(job, work, push);
                    given = outOfAll();
                }
                rubbed++;
            }
            return given >= wanted;
        }

        private void press(Job job, int setting) {
            int push = along(setting, 1) + 1;
            for (int i = 0; i < PRESSING; i++) {
                tick(job, 0, push * 2);
            }
        }

        private void cool(Job job) {
            // Every tick notes falls, but those ahead of the cooling do not count.
            for (int ring = 0; ring < MOST_RINGS; ring++) {
                fall[ring] = 0;
            }
            boolean moved = true;
            for (int i = 0; i < COOLING && moved; i++) {
                moved = tick(job, 0, 0);
            }
        }

        /**
         * One tick of all rings; whether anything changed. What one ring leads to the next, that one takes,
         * as cutting towards 0 is alike both ways; so each pair is reckoned once, with the air as the last
         * ring's neighbour, and no second row is wanted for the warmth ahead of the tick.
         */
        private boolean tick(Job job, int work, int push) {
            int rings = job.marks[RINGS];
            int lead = job.marks[LEAD];
            int soft = job.marks[SOFT];
            int heat = job.marks[HEAT];
            int give = job.marks[GIVE];
            // The bounds of stuffs keep both above 0; as divisors they are looked at all the same.
            if (heat < 1 || give < 1) {
                return false;
            }
            int taken = 0;
            boolean moved = false;
            for (int ring = 0; ring < rings; ring++) {
                int was = warm[ring];
                int beside = ring + 1 < rings ? warm[ring + 1] : COLD;
                int led = (was - beside) * lead / 1000;
                int gain = work * (ring + 1) / heat;
                if (was >= soft) {
                    gain /= 2;
                    int given = out[ring] + push * (was - soft + 1) / give;
                    given = given > MOST_OUT ? MOST_OUT : given;
                    moved = moved || given != out[ring];
                    out[ring] = given;
                }
                int is = was + taken - led + gain;
                is = is > MOST_WARM ? MOST_WARM : is;
                if (is != was) {
                    moved = true;
                    warm[ring] = is;
                    peak[ring] = is > peak[ring] ? is : peak[ring];
                    fall[ring] = was - is > fall[ring] ? was - is : fall[ring];
                }
                taken = led;
            }
            return moved;
        }

        private int outOfAll() {
            int sum = 0;
            for (int ring = 0; ring < MOST_RINGS; ring++) {
                sum += out[ring];
            }
            return sum;
        }

        /** The verdict of a weld that is not stuck; keeps the ring that it is by. */
        private int firstFault(Job job) {
            for (int ring = 0; ring < job.marks[RINGS]; ring++) {
                int fault = faultOf(job, ring);
                if (fault != 0) {
                    faultRing = ring;
                    return fault;
                }
            }
            return 0;
        }

        private int faultOf(Job job, int ring) {
            if (peak[ring] < job.marks[HOT]) {
                return 2;
            }
            if (out[ring] < job.marks[NEED]) {
                return 3;
            }
            return fall[ring] > job.marks[CRACK] ? 4 : 0;
        }
    }

    private static final class Window {
        private final Job job;
        private final int from;
        private final int to;
        // The least proof; null till it is asked for.
        private int[] row;
        private int mostFrom;
        private int mostTo;
        private int most;

        private Window(Job job, int from, int to) {
            this.job = job;
            this.from = from;
            this.to = to;
        }
    }

    /** Goes through the boxes of a proof in the order of its row; boxes not yet come to wait on a pile. */
    private static final class Walk {
        private static final int FIRST_CUT = 2;
        private static final int CUTS_OF_AXIS = 8;
        // A box of 6 by 6 by 6 can be cut 15 times on the way down, and each cut leaves one more waiting.
        private static final int MOST_WAITING = 16;

        private final int[] lows = new int[MOST_WAITING];
        private final int[] highs = new int[MOST_WAITING];
        private int waiting;
        private int from;
        private int to;

        private void begin(int from, int to) {
            waiting = 0;
            lay(from, to);
        }

        private void lay(int low, int high) {
            if (waiting < MOST_WAITING) {
                lows[waiting] = low;
                highs[waiting] = high;
                waiting++;
            }
        }

        /** Comes to the next box; false, if there is none. */
        private boolean advance() {
            if (waiting == 0) {
                return false;
            }
            waiting--;
            from = lows[waiting];
            to = highs[waiting];
            return true;
        }

        private boolean mayCut(int number) {
            int axis = axisOf(number);
            return axis < AXES && lowerOf(number) <= along(to, axis) - along(from, axis);
        }

        /** Lets the parts wait, if the number is a cut of the box. */
        private void follow(int number) {
            if (number < FIRST_CUT || !mayCut(number)) {
                return;
            }
            int axis = axisOf(number);
            int upperFrom = from + lowerOf(number) * STEP[axis];
            int upperSize = along(to, axis) - along(upperFrom, axis) + 1;
            lay(upperFrom, to);
            lay(from, to - upperSize * STEP[axis]);
        }

        private static int axisOf(int number) {
            return (number - FIRST_CUT) / CUTS_OF_AXIS;
        }

        private static int lowerOf(int number) {
            return (number - FIRST_CUT) % CUTS_OF_AXIS + 1;
        }
    }

    /**
     * The search for least proofs: a table of all boxes within a window, used again for each window.
     * On one axis a box takes a stretch; stretches are numbered by their highest place, then by their
     * span, so that both parts of a cut have lower numbers than the whole and one pass upwards is enough.
     * A cell holds the leaves times 32 and the first number of the box's least proof.
     */
    private static final class Prover {
        private static final int STRETCHES = 21;
        private static final int CELLS = 9261;
        private static final int LEAF = 32;
        private static final int TWO_LEAVES = 64;
        private static final int THREE_LEAVES = 96;
        private static final int NO_CUT = 32000;
        private static final int[] STRIDE = {441, 21, 1};
        private static final int[] STRETCHES_BELOW = {0, 1, 3, 6, 10, 15, 21};
        private static final int[] HIGH = {0, 1, 1, 2, 2, 2, 3, 3, 3, 3, 4, 4, 4, 4, 4, 5, 5, 5, 5, 5, 5};
        private static final int[] SPAN = {0, 0, 1, 0, 1, 2, 0, 1, 2, 3, 0, 1, 2, 3, 4, 0, 1, 2, 3, 4, 5};

        private final int[] cells = new int[CELLS];

        private void fill(Bench bench, Window window) {
            int turns = stretchesOn(window, 0);
            int pushes = stretchesOn(window, 1);
            int losses = stretchesOn(window, 2);
            for (int turn = 0; turn < turns; turn++) {
                for (int push = 0; push < pushes; push++) {
                    for (int loss = 0; loss < losses; loss++) {
                        int cell = cellOf(turn, push, loss);
                        if (SPAN[turn] + SPAN[push] + SPAN[loss] > 0) {
                            cells[cell] = leastCut(cell, turn, push, loss);
                        } else {
                            int setting = window.from + settingOf(HIGH[turn], HIGH[push], HIGH[loss]);
                            cells[cell] = bench.makesGood(window.job, setting) ? LEAF : LEAF + 1;
                        }
                    }
                }
            }
        }

        private int leastCut(int cell, int turn, int push, int loss) {
            int least = leastOn(0, cell, turn, NO_CUT);
            least = leastOn(1, cell, push, least);
            return leastOn(2, cell, loss, least);
        }

        /** The better one of what was found so far and the cuts on an axis; no box can beat two leaves. */
        private int leastOn(int axis, int cell, int stretch, int soFar) {
            int least = soFar;
            int stride = STRIDE[axis];
            int low = HIGH[stretch] - SPAN[stretch];
            for (int lower = 1; lower <= SPAN[stretch] && least >= THREE_LEAVES; lower++) {
                int lowerStretch = STRETCHES_BELOW[low + lower - 1] + lower - 1;
                int one = cells[cell - (stretch - lowerStretch) * stride];
                int other = cells[cell - lower * stride];
                if (one == other && one < TWO_LEAVES) {
                    return one;
                }
                int leaves = one / LEAF + other / LEAF;
                if (leaves < least / LEAF) {
                    least = leaves * LEAF + Walk.FIRST_CUT + Walk.CUTS_OF_AXIS * axis + lower - 1;
                }
            }
            return least;
        }

        private int[] rowOf(Walk walk, Window window) {
            int leaves = cells[cellAt(window, window.from, window.to)] / LEAF;
            // With n leaves there are n less 1 cuts.
            int[] row = new int[Math.max(2 * leaves - 1, 0)];
            walk.begin(window.from, window.to);
            for (int place = 0; place < row.length && walk.advance(); place++) {
                row[place] = cells[cellAt(window, walk.from, walk.to)] % LEAF;
                walk.follow(row[place]);
            }
            return row;
        }

        private void findGreatest(Window window) {
            int turns = stretchesOn(window, 0);
            int pushes = stretchesOn(window, 1);
            int losses = stretchesOn(window, 2);
            for (int turn = 0; turn < turns; turn++) {
                for (int push = 0; push < pushes; push++) {
                    for (int loss = 0; loss < losses; loss++) {
                        if (cells[cellOf(turn, push, loss)] == LEAF) {
                            weigh(window, turn, push, loss);
                        }
                    }
                }
            }
        }

        private static void weigh(Window window, int turn, int push, int loss) {
            int size = (SPAN[turn] + 1) * (SPAN[push] + 1) * (SPAN[loss] + 1);
            if (size < window.most) {
                return;
            }
            int to = window.from + settingOf(HIGH[turn], HIGH[push], HIGH[loss]);
            int from = to - settingOf(SPAN[turn], SPAN[push], SPAN[loss]);
            boolean isAhead = from < window.mostFrom || from == window.mostFrom && to < window.mostTo;
            if (size > window.most || isAhead) {
                window.most = size;
                window.mostFrom = from;
                window.mostTo = to;
            }
        }

        private static int stretchesOn(Window window, int axis) {
            return STRETCHES_BELOW[along(window.to, axis) - along(window.from, axis) + 1];
        }

        private static int stretchAt(Window window, int from, int to, int axis) {
            int high = along(to, axis) - along(window.from, axis);
            return STRETCHES_BELOW[high] + along(to, axis) - along(from, axis);
        }

        private static int cellAt(Window window, int from, int to) {
            return cellOf(stretchAt(window, from, to, 0), stretchAt(window, from, to, 1),
                    stretchAt(window, from, to, 2));
        }

        private static int cellOf(int turn, int push, int loss) {
            return (turn * STRETCHES + push) * STRETCHES + loss;
        }

        private static int settingOf(int turn, int push, int loss) {
            return turn * STEP[0] + push * STEP[1] + loss * STEP[2];
        }
    }

    private static final class Tape {
        private static final int MOST = 500;
        private static final int GREATEST_NUMBER = 31;

        private final int[] numbers = new int[MOST];
        private int size;

        private boolean append(int number) {
            if (!isNumber(number) || size == MOST) {
                return false;
            }
            numbers[size] = number;
            size++;
            return true;
        }

        private boolean replace(int place, int number) {
            if (place < 0 || place >= size || !isNumber(number)) {
                return false;
            }
            numbers[place] = number;
            return true;
        }

        private boolean shorten(int n) {
            if (n < 0 || n > size) {
                return false;
            }
            size = n;
            return true;
        }

        private void become(int[] row) {
            size = Math.min(row.length, MOST);
            System.arraycopy(row, 0, numbers, 0, size);
        }

        private static boolean isNumber(int number) {
            return number >= 0 && number <= GREATEST_NUMBER;
        }
    }

    private static final class Joint {
        private final Job job;
        private final int setting;
        private final int day;

        private Joint(Job job, int setting, int day) {
            this.job = job;
            this.setting = setting;
            this.day = day;
        }
    }

    /** The joints, and what was told of them, in the order in which it was told. */
    private static final class Book {
        private static final int MOST_JOINTS = 60;
        private static final int MOST_TRIED = 100;
        private static final int UNTRIED = 0;
        private static final int TOLD_GOOD = 1;
        private static final int TOLD_BAD = 2;

        private final Joint[] jointRow = new Joint[MOST_JOINTS];
        private final int[] words = new int[MOST_JOINTS];
        private final int[] triedJoint = new int[MOST_TRIED];
        private final int[] triedWord = new int[MOST_TRIED];
        private final int[] triedDay = new int[MOST_TRIED];
        private int joints;
        private int trials;

        private int enter(Job job, int setting, int day) {
            if (joints == MOST_JOINTS) {
                return NONE;
            }
            jointRow[joints] = new Joint(job, setting, day);
            joints++;
            return joints - 1;
        }

        private Joint jointAt(int number) {
            return number >= 0 && number < joints ? jointRow[number] : null;
        }

        private boolean note(int joint, boolean good, int day) {
            if (jointAt(joint) == null || trials == MOST_TRIED) {
                return false;
            }
            triedJoint[trials] = joint;
            triedWord[trials] = good ? TOLD_GOOD : TOLD_BAD;
            triedDay[trials] = day;
            trials++;
            return true;
        }

        /** Fills the words with what each joint is as known in q. */
        private void recall(int q) {
            for (int joint = 0; joint < joints; joint++) {
                words[joint] = UNTRIED;
            }
            for (int i = 0; i < trials && triedDay[i] <= q; i++) {
                words[triedJoint[i]] = triedWord[i];
            }
        }

        private int countOdd(Bench bench) {
            int found = 0;
            for (int joint = 0; joint < joints; joint++) {
                Joint it = jointAt(joint);
                if (it != null && words[joint] != UNTRIED
                        && bench.makesGood(it.job, it.setting) != (words[joint] == TOLD_GOOD)) {
                    found++;
                }
            }
            return found;
        }

        /** The stuff with the greatest part of bad ones among its tried joints. */
        private int worstStuff(int stuffs) {
            int worst = NONE;
            int worstBad = 0;
            int worstTried = 1;
            for (int stuff = 0; stuff < stuffs; stuff++) {
                int bad = countWith(stuff, TOLD_BAD);
                int tried = bad + countWith(stuff, TOLD_GOOD);
                if (bad * worstTried > worstBad * tried) {
                    worst = stuff;
                    worstBad = bad;
                    worstTried = tried;
                }
            }
            return worst;
        }

        private int countWith(int stuff, int word) {
            int found = 0;
            for (int joint = 0; joint < joints; joint++) {
                Joint it = jointAt(joint);
                if (it != null && words[joint] == word && it.job.has(stuff)) {
                    found++;
                }
            }
            return found;
        }
    }

    /** The day's work, and its cheapest order, which is kept till an entry comes or all go. */
    private static final class DayList {
        private static final int MOST = 8;
        private static final int SETS = 256;

        private final int[] jobNumbers = new int[MOST];
        private final int[] settings = new int[MOST];
        private final int[] cheapest = new int[MOST];
        private final int[] changes = new int[MOST * MOST];
        // For each set of entries that are done, and the last of them: the least sum of what is left.
        private int[] rest;
        private int size;
        private int sum;
        private boolean isPlanned;

        private int enter(int job, int setting) {
            if (size == MOST) {
                return NONE;
            }
            jobNumbers[size] = job;
            settings[size] = setting;
            size++;
            isPlanned = false;
            return size - 1;
        }

        private void empty() {
            size = 0;
            isPlanned = false;
        }

        private void plan() {
            if (isPlanned) {
                return;
            }
            if (rest == null) {
                rest = new int[SETS * MOST];
            }
            fillChanges();
            fillRest(rest);
            int done = 0;
            int last = NONE;
            sum = 0;
            for (int i = 0; i < size; i++) {
                int next = bestNext(rest, done, last);
                if (next == NONE) {
                    return;
                }
                sum += changeTo(last, next);
                done |= 1 << next;
                last = next;
                cheapest[i] = next;
            }
            isPlanned = true;
        }

        private void fillChanges() {
            for (int one = 0; one < size; one++) {
                for (int other = 0; other < size; other++) {
                    changes[one * MOST + other] = change(one, other);
                }
            }
        }

        private int change(int last, int next) {
            int one = settings[last];
            int other = settings[next];
            int steps = 3 * stepsOn(0, one, other) + 2 * stepsOn(1, one, other) + stepsOn(2, one, other);
            return jobNumbers[last] == jobNumbers[next] ? steps : steps + 10;
        }

        /** Greater sets first, as each leans on those with one entry more. */
        private void fillRest(int[] rest) {
            for (int done = (1 << size) - 1; done > 0; done--) {
                for (int last = 0; last < size; last++) {
                    if ((done >> last & 1) == 1) {
                        int next = bestNext(rest, done, last);
                        rest[done * MOST + last] = next == NONE ? 0 : sumBy(rest, done, last, next);
                    }
                }
            }
        }

        /** The lowest of the entries by which the rest is cheapest; NONE, if all are done. */
        private int bestNext(int[] rest, int done, int last) {
            int best = NONE;
            int least = 0;
            for (int next = 0; next < size; next++) {
                if ((done >> next & 1) == 1) {
                    continue;
                }
                int by = sumBy(rest, done, last, next);
                if (best == NONE || by < least) {
                    best = next;
                    least = by;
                }
            }
            return best;
        }

        private int sumBy(int[] rest, int done, int last, int next) {
            return changeTo(last, next) + rest[(done | 1 << next) * MOST + next];
        }

        private int changeTo(int last, int next) {
            return last == NONE ? 0 : changes[last * MOST + next];
        }
    }
}
