/** Counts the answers that are not as due; a test ends by end(). */
final class Checks {
    interface Call {
        long answer();
    }

    interface Deed {
        void run();
    }

    private static int made = 0;
    private static int wrong = 0;

    private Checks() {
    }

    static void due(String call, long want, Call asked) {
        made++;
        try {
            long got = asked.answer();
            if (got != want) {
                complain(call + " answered " + got + ", due is " + want);
            }
        } catch (RuntimeException e) {
            complain(call + " threw " + e + ", due is " + want);
        }
    }

    static void due(String call, boolean want, boolean got) {
        due(call, want ? 1 : 0, () -> got ? 1 : 0);
    }

    /** The very exception is due, and that the vault is afterwards as it was before. */
    static void refused(RetentionVault vault, Class<? extends RuntimeException> want, String call, Deed deed) {
        made++;
        String before = State.of(vault);
        try {
            deed.run();
            complain(call + " threw nothing, due is " + want.getName());
        } catch (RuntimeException e) {
            if (e.getClass() != want) {
                complain(call + " threw " + e + ", due is " + want.getName());
            }
        }
        String after = State.of(vault);
        if (!after.equals(before)) {
            complain(call + " changed " + before + " into " + after);
        }
    }

    static void missing(RetentionVault vault, String call, Deed deed) {
        refused(vault, java.util.NoSuchElementException.class, call, deed);
    }

    static void badArgument(RetentionVault vault, String call, Deed deed) {
        refused(vault, IllegalArgumentException.class, call, deed);
    }

    static void badState(RetentionVault vault, String call, Deed deed) {
        refused(vault, IllegalStateException.class, call, deed);
    }

    static void outOfBounds(RetentionVault vault, String call, Deed deed) {
        refused(vault, IndexOutOfBoundsException.class, call, deed);
    }

    /** The latest entry but for so many. */
    static void entryDue(RetentionVault vault, int back, int day, int kind, int number, int detail) {
        int[] want = {day, kind, number, detail};
        for (int what = 0; what < 4; what++) {
            int w = what;
            due("entry(" + back + ", " + what + ")", want[what], () -> vault.entry(back, w));
        }
    }

    static void complain(String text) {
        wrong++;
        System.out.println(text);
    }

    static void end() {
        System.out.println(made + " checks, " + wrong + " wrong");
        if (wrong != 0 || made == 0) {
            System.exit(1);
        }
    }
}
