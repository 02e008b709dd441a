/** Counts the answers that are not as due; a test ends by end(). */
final class Checks {
    interface Call {
        long answer();
    }

    interface Deed {
        void run();
    }

    private static int made = 0;
    private static int wrong = 0;

    private Checks() {
    }

    /** A sentence of the document that names a boundary case, and the test that is its own. */
    static void sentence(String words, Deed test) {
        int madeBefore = made;
        int wrongBefore = wrong;
        try {
            test.run();
        } catch (RuntimeException e) {
            complain("a call that should be taken threw " + e);
            e.printStackTrace(System.out);
        }
        if (made == madeBefore) {
            complain("nothing was checked");
        }
        System.out.println((wrong == wrongBefore ? "holds: " : "BROKEN: ") + words);
    }

    static void due(String call, long want, Call asked) {
        made++;
        try {
            long got = asked.answer();
            if (got != want) {
                complain(call + " answered " + got + ", due is " + want);
            }
        } catch (RuntimeException e) {
            complain(call + " threw " + e + ", due is " + want);
        }
    }

    static void due(String call, boolean want, boolean got) {
        due(call, want ? 1 : 0, () -> got ? 1 : 0);
    }

    static void same(String call, String want, String got) {
        made++;
        if (!got.equals(want)) {
            complain(call + " led to" + got + "\n  due is" + want);
        }
    }

    /** The very exception is due: not one of a class below it. */
    static void thrown(Class<? extends RuntimeException> want, String call, Deed deed) {
        made++;
        try {
            deed.run();
            complain(call + " threw nothing, due is " + want.getName());
        } catch (RuntimeException e) {
            if (e.getClass() != want) {
                complain(call + " threw " + e + ", due is " + want.getName());
            }
        }
    }

    /**
     * In the midst of a run of calls: asks for the figures alone, for the vault still has to be used
     * after it. That truly nothing was changed is for Bounds.refused to see.
     */
    private static void refused(RetentionVault vault, Class<? extends RuntimeException> want, String call,
            Deed deed) {
        String before = Answers.figures(vault);
        thrown(want, call, deed);
        same(call, before, Answers.figures(vault));
    }

    static void missing(RetentionVault vault, String call, Deed deed) {
        refused(vault, java.util.NoSuchElementException.class, call, deed);
    }

    static void badState(RetentionVault vault, String call, Deed deed) {
        refused(vault, IllegalStateException.class, call, deed);
    }

    /** The latest entry but for so many. */
    static void entryDue(RetentionVault vault, int back, int day, int kind, int number, int detail) {
        int[] want = {day, kind, number, detail};
        for (int what = 0; what < 4; what++) {
            int w = what;
            due("entry(" + back + ", " + what + ")", want[what], () -> vault.entry(back, w));
        }
    }

    static void complain(String text) {
        wrong++;
        System.out.println(text);
    }

    static void end() {
        System.out.println(made + " checks, " + wrong + " wrong");
        if (wrong != 0 || made == 0) {
            System.exit(1);
        }
    }
}
