import java.util.NoSuchElementException;

/** What the tests share: wrong answers are told and counted, and end the test with exit code 1. */
public final class Checks {
    public interface Call {
        void run();
    }

    private static int wrong = 0;

    private Checks() {
    }

    public static void due(String what, int got, int want) {
        due(what, String.valueOf(got), String.valueOf(want));
    }

    public static void due(String what, boolean got, boolean want) {
        due(what, String.valueOf(got), String.valueOf(want));
    }

    public static void due(String what, String got, String want) {
        if (!got.equals(want)) {
            wrong++;
            System.out.println(what + " answered " + got + ", due is " + want);
        }
    }

    public static void duePair(String what, CrossDock x, int i, int arrive, int order, int pallets) {
        due(what + ": arrival of pair " + i, x.pair(i, 0), arrive);
        due(what + ": order of pair " + i, x.pair(i, 1), order);
        due(what + ": pallets of pair " + i, x.pair(i, 2), pallets);
    }

    public static void refused(String what, Class<? extends RuntimeException> want, Call call) {
        String got = "nothing";
        try {
            call.run();
        } catch (RuntimeException e) {
            got = e.getClass().getName();
        }
        due(what + " throws, and", got, want.getName());
    }

    public static void noSuch(String what, Call call) {
        refused(what, NoSuchElementException.class, call);
    }

    public static void illegal(String what, Call call) {
        refused(what, IllegalArgumentException.class, call);
    }

    public static void notNow(String what, Call call) {
        refused(what, IllegalStateException.class, call);
    }

    public static void noRoom(String what, Call call) {
        refused(what, UnsupportedOperationException.class, call);
    }

    /** A number just below a range, one just above it, and the furthest that an int goes. */
    public static int[] outside(int least, int most) {
        return new int[] {Integer.MIN_VALUE, least - 1, most + 1, Integer.MAX_VALUE};
    }

    public static void end(String allWell) {
        System.out.println(wrong == 0 ? allWell : wrong + " answers are wrong");
        if (wrong != 0) {
            System.exit(1);
        }
    }
}
