import java.util.NoSuchElementException;
import java.util.function.IntToLongFunction;

/** Counts answers that are not as due, and says which. */
final class Checker {
    private String where = "";
    private int asked;
    private int wrong;

    /** What is asked from here on is told with this name. */
    void begin(String name) {
        where = name + ": ";
    }

    void due(String what, long want, long got) {
        asked++;
        if (want != got) {
            wrong++;
            if (wrong <= 50) {
                System.out.println(where + what + " answered " + got + ", due is " + want);
            }
        }
    }

    void due(String what, boolean want, boolean got) {
        due(what, want ? 1 : 0, got ? 1 : 0);
    }

    void due(String what, String want, String got) {
        due(what + ": " + got + ", wanted " + want, true, want.equals(got));
    }

    /** Asks for the number below the least, for that above the most, and for far ones: all of them are refused. */
    void refuses(String what, long due, int least, int most, IntToLongFunction call) {
        due(what + " " + (least - 1) + ", one too small", due, call.applyAsLong(least - 1));
        due(what + " " + (most + 1) + ", one too large", due, call.applyAsLong(most + 1));
        for (int far : Given.NO_NUMBERS) {
            if (far < least || far > most) {
                due(what + " " + far, due, call.applyAsLong(far));
            }
        }
    }

    static boolean throwsNoSuch(RubbedWelds welds, int job, int what) {
        try {
            welds.told(job, what);
            return false;
        } catch (NoSuchElementException e) {
            return true;
        }
    }

    void dueToThrow(RubbedWelds welds, int job, int what) {
        due("told(" + job + ", " + what + ") throws", true, throwsNoSuch(welds, job, what));
    }

    int asked() {
        return asked;
    }

    int wrong() {
        return wrong;
    }

    void close() {
        System.out.println(asked + " answers looked at, " + wrong + " of them wrong");
        if (wrong != 0 || asked == 0) {
            System.exit(1);
        }
    }
}
