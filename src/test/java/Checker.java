import java.util.NoSuchElementException;

/** Counts answers that are not as due, and says which. */
final class Checker {
    private String where = "";
    private int asked;
    private int wrong;

    /** What is asked from here on is told with this name. */
    void begin(String name) {
        where = name + ": ";
    }

    void due(String what, long want, long got) {
        asked++;
        if (want != got) {
            wrong++;
            if (wrong <= 50) {
                System.out.println(where + what + " answered " + got + ", due is " + want);
            }
        }
    }

    void due(String what, boolean want, boolean got) {
        due(what, want ? 1 : 0, got ? 1 : 0);
    }

    void due(String what, String want, String got) {
        due(what + ": " + got + ", wanted " + want, true, want.equals(got));
    }

    void throwsNoSuch(RubbedWelds welds, int job, int what) {
        boolean thrown = false;
        try {
            welds.told(job, what);
        } catch (NoSuchElementException e) {
            thrown = true;
        }
        due("told(" + job + ", " + what + ") throws", true, thrown);
    }

    int asked() {
        return asked;
    }

    int wrong() {
        return wrong;
    }

    void close() {
        System.out.println(asked + " answers looked at, " + wrong + " of them wrong");
        if (wrong != 0 || asked == 0) {
            System.exit(1);
        }
    }
}
