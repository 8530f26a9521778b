import java.util.ArrayList;
import java.util.HashMap;
import java.util.List;
import java.util.Map;
import java.util.NoSuchElementException;

/** The document once more, as slow and plain as may be: what ModelTests holds RubbedWelds against. */
final class PlainWelds {
    static final class Weld {
        int[] warm;
        int[] peak;
        int[] out;
        int[] fall;
        int ticks;
        int verdict;
        int by = -1;
    }

    static final class Job {
        int one;
        int other;
        int rub;
        int heat;
        int lead;
        int soft;
        int give;
        int hot;
        int need;
        int crack;
        int rings;
        final Map<Integer, Weld> welds = new HashMap<>();
    }

    record Box(int t0, int t1, int p0, int p1, int l0, int l1) {
        int size() {
            return (t1 - t0 + 1) * (p1 - p0 + 1) * (l1 - l0 + 1);
        }

        List<Integer> settings() {
            List<Integer> all = new ArrayList<>();
            for (int t = t0; t <= t1; t++) {
                for (int p = p0; p <= p1; p++) {
                    for (int l = l0; l <= l1; l++) {
                        all.add(t * 81 + p * 9 + l);
                    }
                }
            }
            return all;
        }

        /** The two parts of a cut; null, if the number is no cut of this box. */
        Box[] cut(int number) {
            int lower = (number - 2) % 8 + 1;
            if (number < 2) {
                return null;
            }
            if (number < 10) {
                return t0 + lower > t1 ? null : new Box[] {
                    new Box(t0, t0 + lower - 1, p0, p1, l0, l1), new Box(t0 + lower, t1, p0, p1, l0, l1)};
            }
            if (number < 18) {
                return p0 + lower > p1 ? null : new Box[] {
                    new Box(t0, t1, p0, p0 + lower - 1, l0, l1), new Box(t0, t1, p0 + lower, p1, l0, l1)};
            }
            if (number < 26) {
                return l0 + lower > l1 ? null : new Box[] {
                    new Box(t0, t1, p0, p1, l0, l0 + lower - 1), new Box(t0, t1, p0, p1, l0 + lower, l1)};
            }
            return null;
        }
    }

    static final class Window {
        Job job;
        Box box;
        final Map<Box, List<Integer>> least = new HashMap<>();
    }

    record Joint(Job job, int setting, int day) { }

    record Attempt(int joint, boolean good, int day) { }

    private int now;
    private final List<int[]> stuffs = new ArrayList<>();
    private final boolean[][] barred = new boolean[6][6];
    private final List<Job> jobs = new ArrayList<>();
    private final List<Window> windows = new ArrayList<>();
    private final List<Integer> tape = new ArrayList<>();
    private final List<Joint> joints = new ArrayList<>();
    private final List<Attempt> attempts = new ArrayList<>();
    private final List<int[]> entries = new ArrayList<>();

    int days(int n) {
        if (n < 0 || n > 500 || now + n > 1000) {
            return -1;
        }
        return now += n;
    }

    private static boolean in(int n, int least, int most) {
        return n >= least && n <= most;
    }

    int stuff(int rub, int heat, int lead, int soft, int give, int hot, int need, int crack) {
        if (!in(rub, 1, 100) || !in(heat, 1, 100) || !in(lead, 0, 300) || !in(soft, 50, 900)) {
            return -1;
        }
        if (!in(give, 1, 100) || !in(hot, 50, 999) || !in(need, 0, 500) || !in(crack, 1, 500)) {
            return -1;
        }
        if (stuffs.size() == 6) {
            return -1;
        }
        stuffs.add(new int[] {rub, heat, lead, soft, give, hot, need, crack});
        return stuffs.size() - 1;
    }

    private boolean isStuff(int n) {
        return in(n, 0, stuffs.size() - 1);
    }

    boolean bar(int one, int other) {
        if (!isStuff(one) || !isStuff(other) || barred[one][other]) {
            return false;
        }
        barred[one][other] = true;
        barred[other][one] = true;
        return true;
    }

    int job(int one, int other, int rings) {
        if (!isStuff(one) || !isStuff(other) || barred[one][other] || !in(rings, 2, 6) || jobs.size() == 20) {
            return -1;
        }
        int[] a = stuffs.get(one);
        int[] b = stuffs.get(other);
        Job j = new Job();
        j.one = one;
        j.other = other;
        j.rub = (a[0] + b[0]) / 2;
        j.heat = (a[1] + b[1]) / 2;
        j.lead = (a[2] + b[2]) / 2;
        j.soft = a[3] < b[3] ? a[3] : b[3];
        j.give = (a[4] + b[4]) / 2;
        j.hot = a[5] > b[5] ? a[5] : b[5];
        j.need = a[6] > b[6] ? a[6] : b[6];
        j.crack = a[7] < b[7] ? a[7] : b[7];
        j.rings = rings;
        jobs.add(j);
        return jobs.size() - 1;
    }

    int told(int job, int what) {
        if (!in(job, 0, jobs.size() - 1) || !in(what, 0, 8)) {
            throw new NoSuchElementException();
        }
        Job j = jobs.get(job);
        return new int[] {j.rub, j.heat, j.lead, j.soft, j.give, j.hot, j.need, j.crack, j.rings}[what];
    }

    int setting(int turn, int push, int loss) {
        return in(turn, 1, 9) && in(push, 1, 9) && in(loss, 1, 9) ? 81 * (turn - 1) + 9 * (push - 1) + loss - 1 : -1;
    }

    private Weld weld(Job j, int setting) {
        Weld made = j.welds.get(setting);
        if (made == null) {
            made = makeWeld(j, setting);
            j.welds.put(setting, made);
        }
        return made;
    }

    private static Weld makeWeld(Job j, int setting) {
        int turn = setting / 81 + 1;
        int push = setting % 81 / 9 + 1;
        int loss = setting % 9 + 1;
        Weld w = new Weld();
        w.warm = new int[j.rings];
        w.peak = new int[j.rings];
        w.out = new int[j.rings];
        w.fall = new int[j.rings];
        for (int r = 0; r < j.rings; r++) {
            w.warm[r] = 20;
            w.peak[r] = 20;
        }
        boolean stuck = true;
        for (int t = 1; t <= 60 && stuck; t++) {
            tick(j, w, turn, push, 0);
            w.ticks = t;
            int sum = 0;
            for (int out : w.out) {
                sum += out;
            }
            stuck = sum < loss * 20;
        }
        for (int t = 0; t < 5; t++) {
            tick(j, w, turn, push, 1);
        }
        for (int t = 0; t < 30; t++) {
            tick(j, w, turn, push, 2);
        }
        w.verdict = stuck ? 1 : 0;
        for (int r = 0; r < j.rings && w.verdict == 0; r++) {
            w.verdict = w.peak[r] < j.hot ? 2 : w.out[r] < j.need ? 3 : w.fall[r] > j.crack ? 4 : 0;
            w.by = w.verdict == 0 ? -1 : r;
        }
        return w;
    }

    /** Phase 0 is rubbing, 1 pressing, 2 cooling. */
    private static void tick(Job j, Weld w, int turn, int push, int phase) {
        int[] ahead = w.warm.clone();
        for (int r = 0; r < j.rings; r++) {
            int led = 0;
            if (r > 0) {
                led += (ahead[r] - ahead[r - 1]) * j.lead / 1000;
            }
            if (r < j.rings - 1) {
                led += (ahead[r] - ahead[r + 1]) * j.lead / 1000;
            } else {
                led += (ahead[r] - 20) * j.lead / 1000;
            }
            boolean soft = ahead[r] >= j.soft;
            int work = phase == 0 ? turn * push * (r + 1) * j.rub / j.heat : 0;
            if (soft) {
                work = work / 2;
            }
            w.warm[r] = Math.min(5000, ahead[r] - led + work);
            w.peak[r] = Math.max(w.peak[r], w.warm[r]);
            if (soft && phase < 2) {
                int by = phase == 0 ? push : push * 2;
                w.out[r] = Math.min(100000, w.out[r] + by * (ahead[r] - j.soft + 1) / j.give);
            }
            if (phase == 2) {
                w.fall[r] = Math.max(w.fall[r], ahead[r] - w.warm[r]);
            }
        }
    }

    private boolean isGood(Job j, int setting) {
        return weld(j, setting).verdict == 0;
    }

    private boolean isWeld(int job, int setting) {
        return in(job, 0, jobs.size() - 1) && in(setting, 0, 728);
    }

    int verdict(int job, int setting) {
        return isWeld(job, setting) ? weld(jobs.get(job), setting).verdict : -1;
    }

    int ring(int job, int setting, int ring, int what) {
        if (!isWeld(job, setting) || !in(ring, 0, jobs.get(job).rings - 1) || !in(what, 0, 3)) {
            return -1000000;
        }
        Weld w = weld(jobs.get(job), setting);
        return new int[][] {w.warm, w.peak, w.out, w.fall}[what][ring];
    }

    int by(int job, int setting) {
        return isWeld(job, setting) ? weld(jobs.get(job), setting).by : -1;
    }

    int ticks(int job, int setting) {
        return isWeld(job, setting) ? weld(jobs.get(job), setting).ticks : -1;
    }

    int window(int job, int from, int to) {
        if (!isWeld(job, from) || !isWeld(job, to) || windows.size() == 10) {
            return -1;
        }
        Box b = new Box(from / 81, to / 81, from / 9 % 9, to / 9 % 9, from % 9, to % 9);
        if (!in(b.t1 - b.t0, 0, 5) || !in(b.p1 - b.p0, 0, 5) || !in(b.l1 - b.l0, 0, 5)) {
            return -1;
        }
        Window w = new Window();
        w.job = jobs.get(job);
        w.box = b;
        windows.add(w);
        return windows.size() - 1;
    }

    private Window windowAt(int n) {
        return in(n, 0, windows.size() - 1) ? windows.get(n) : null;
    }

    private int goodIn(Job job, Box box) {
        int found = 0;
        for (int s : box.settings()) {
            found += isGood(job, s) ? 1 : 0;
        }
        return found;
    }

    int good(int window) {
        Window w = windowAt(window);
        return w == null ? -1 : goodIn(w.job, w.box);
    }

    private static int leavesOf(List<Integer> row) {
        return (int) row.stream().filter(n -> n < 2).count();
    }

    private List<Integer> least(Window w, Box box) {
        List<Integer> known = w.least.get(box);
        if (known != null) {
            return known;
        }
        int good = goodIn(w.job, box);
        List<Integer> best = null;
        if (good == box.size()) {
            best = List.of(0);
        } else if (good == 0) {
            best = List.of(1);
        } else {
            for (int number = 2; number < 32; number++) {
                Box[] parts = box.cut(number);
                if (parts == null) {
                    continue;
                }
                List<Integer> row = new ArrayList<>();
                row.add(number);
                row.addAll(least(w, parts[0]));
                row.addAll(least(w, parts[1]));
                if (best == null || leavesOf(row) < leavesOf(best)) {
                    best = row;
                }
            }
        }
        w.least.put(box, best);
        return best;
    }

    int leaves(int window) {
        Window w = windowAt(window);
        return w == null ? -1 : leavesOf(least(w, w.box));
    }

    int proof(int window, int i) {
        Window w = windowAt(window);
        if (w == null) {
            return -1;
        }
        List<Integer> row = least(w, w.box);
        return i == -1 ? row.size() : in(i, 0, row.size() - 1) ? row.get(i) : -1;
    }

    int tell(int number) {
        if (!in(number, 0, 31) || tape.size() == 500) {
            return -1;
        }
        tape.add(number);
        return tape.size();
    }

    int copy(int window) {
        Window w = windowAt(window);
        if (w == null) {
            return -1;
        }
        tape.clear();
        tape.addAll(least(w, w.box));
        return tape.size();
    }

    boolean alter(int place, int number) {
        if (!in(place, 0, tape.size() - 1) || !in(number, 0, 31)) {
            return false;
        }
        tape.set(place, number);
        return true;
    }

    boolean end(int n) {
        if (!in(n, 0, tape.size())) {
            return false;
        }
        tape.subList(n, tape.size()).clear();
        return true;
    }

    /** Reads a proof of the box from a place on: the place behind it, or less than 0: -1 less the bad place. */
    private int read(Window w, Box box, int place) {
        if (place >= tape.size()) {
            return -1 - tape.size();
        }
        int number = tape.get(place);
        if (number < 2) {
            boolean so = goodIn(w.job, box) == (number == 0 ? box.size() : 0);
            return so ? place + 1 : -1 - place;
        }
        Box[] parts = box.cut(number);
        if (parts == null) {
            return -1 - place;
        }
        int behind = read(w, parts[0], place + 1);
        return behind < 0 ? behind : read(w, parts[1], behind);
    }

    int check(int window) {
        Window w = windowAt(window);
        if (w == null) {
            return -2;
        }
        int behind = read(w, w.box, 0);
        return behind < 0 ? -1 - behind : behind < tape.size() ? behind : -1;
    }

    int greatest(int window, int what) {
        Window w = windowAt(window);
        if (w == null || !in(what, 0, 2)) {
            return -1;
        }
        int[] best = null;
        for (int from : w.box.settings()) {
            for (int to : w.box.settings()) {
                Box b = new Box(from / 81, to / 81, from / 9 % 9, to / 9 % 9, from % 9, to % 9);
                boolean isBox = b.t0 <= b.t1 && b.p0 <= b.p1 && b.l0 <= b.l1;
                if (isBox && (best == null || b.size() > best[2]) && goodIn(w.job, b) == b.size()) {
                    best = new int[] {from, to, b.size()};
                }
            }
        }
        return best == null ? -1 : best[what];
    }

    private static int steps(int one, int other) {
        return Math.abs(one / 81 - other / 81) + Math.abs(one / 9 % 9 - other / 9 % 9) + Math.abs(one % 9 - other % 9);
    }

    int edge(int window, int setting) {
        Window w = windowAt(window);
        if (w == null || !w.box.settings().contains(setting)) {
            return -1;
        }
        for (int away = 1; away <= 15; away++) {
            for (int s : w.box.settings()) {
                if (steps(s, setting) == away && isGood(w.job, s) != isGood(w.job, setting)) {
                    return s;
                }
            }
        }
        return -1;
    }

    int mended(int job, int setting) {
        if (!isWeld(job, setting)) {
            return -1;
        }
        int t = setting / 81 + 1;
        int p = setting / 9 % 9 + 1;
        int l = setting % 9 + 1;
        int[] beside = {setting(t - 1, p, l), setting(t + 1, p, l), setting(t, p - 1, l), setting(t, p + 1, l),
            setting(t, p, l - 1), setting(t, p, l + 1)};
        int bits = 0;
        for (int i = 0; i < 6; i++) {
            if (beside[i] != -1 && isGood(jobs.get(job), beside[i])) {
                bits += 1 << i;
            }
        }
        return bits;
    }

    int joint(int job, int setting) {
        if (!isWeld(job, setting) || joints.size() == 60) {
            return -1;
        }
        joints.add(new Joint(jobs.get(job), setting, now));
        return joints.size() - 1;
    }

    boolean attempt(int joint, boolean good) {
        if (!in(joint, 0, joints.size() - 1) || attempts.size() == 100) {
            return false;
        }
        attempts.add(new Attempt(joint, good, now));
        return true;
    }

    int tried(int joint, int q) {
        if (!in(joint, 0, joints.size() - 1) || !in(q, 0, now) || joints.get(joint).day > q) {
            return -1;
        }
        return wordOf(joint, q);
    }

    private int wordOf(int joint, int q) {
        for (int i = attempts.size() - 1; i >= 0; i--) {
            if (attempts.get(i).joint == joint && attempts.get(i).day <= q) {
                return attempts.get(i).good ? 1 : 2;
            }
        }
        return 0;
    }

    int odd(int q) {
        if (!in(q, 0, now)) {
            return -1;
        }
        int found = 0;
        for (int i = 0; i < joints.size(); i++) {
            int good = isGood(joints.get(i).job, joints.get(i).setting) ? 1 : 2;
            found += wordOf(i, q) != 0 && wordOf(i, q) != good ? 1 : 0;
        }
        return found;
    }

    int led(int q) {
        if (!in(q, 0, now)) {
            return -1;
        }
        int best = -1;
        int bestBad = 0;
        int bestAll = 0;
        for (int s = 0; s < stuffs.size(); s++) {
            int bad = 0;
            int all = 0;
            for (int i = 0; i < joints.size(); i++) {
                Job j = joints.get(i).job;
                if (j.one == s || j.other == s) {
                    bad += wordOf(i, q) == 2 ? 1 : 0;
                    all += wordOf(i, q) != 0 ? 1 : 0;
                }
            }
            if (bad > 0 && (best == -1 || bad * bestAll > bestBad * all)) {
                best = s;
                bestBad = bad;
                bestAll = all;
            }
        }
        return best;
    }

    int work(int job, int setting) {
        if (!isWeld(job, setting) || entries.size() == 8) {
            return -1;
        }
        entries.add(new int[] {job, setting});
        return entries.size() - 1;
    }

    void clear() {
        entries.clear();
    }

    private int change(int[] one, int[] other) {
        return 3 * Math.abs(one[1] / 81 - other[1] / 81) + 2 * Math.abs(one[1] / 9 % 9 - other[1] / 9 % 9)
            + Math.abs(one[1] % 9 - other[1] % 9) + (one[0] != other[0] ? 10 : 0);
    }

    private int bestSum;
    private List<Integer> bestOrder;

    /** All orders, the lower ones first; only a lesser sum takes the place of what was found. */
    private void tryOrders(List<Integer> order, int sum) {
        if (order.size() == entries.size()) {
            if (bestOrder == null || sum < bestSum) {
                bestSum = sum;
                bestOrder = new ArrayList<>(order);
            }
            return;
        }
        for (int i = 0; i < entries.size(); i++) {
            if (order.contains(i)) {
                continue;
            }
            int more = order.isEmpty() ? 0 : change(entries.get(order.get(order.size() - 1)), entries.get(i));
            order.add(i);
            tryOrders(order, sum + more);
            order.remove(order.size() - 1);
        }
    }

    int order(int i) {
        if (entries.isEmpty() || !in(i, -1, entries.size() - 1)) {
            return -1;
        }
        bestOrder = null;
        tryOrders(new ArrayList<>(), 0);
        return i == -1 ? bestSum : bestOrder.get(i);
    }

    int count(int what) {
        int[] counts = {now, stuffs.size(), jobs.size(), windows.size(), tape.size(), joints.size(), entries.size()};
        return in(what, 0, 6) ? counts[what] : -1;
    }
}
