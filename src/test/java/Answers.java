import java.util.List;
import java.util.function.Function;

/**
 * What a vault answers, now and later, as texts. Each way of asking keeps below 380 calls, so that
 * a vault that was made by some 130 calls is still within its 512 when it has been asked.
 */
final class Answers {
    /** Together they show all of a vault's state; most of them use the vault up. */
    static final List<Function<RetentionVault, String>> WAYS = List.of(
            Answers::figures,
            v -> versions(v, 0, 22),
            v -> versions(v, 23, 45),
            v -> log(v, 0, 31),
            v -> log(v, 32, 64),
            Answers::comingDays,
            Answers::emptiedRules,
            v -> erased(v, false),
            v -> erased(v, true),
            Answers::nextNumbers);

    private static final int[] STEPS = {
        1, 1, 1, 1, 1, 1, 1, 1, 10, 10, 100, 1000, 1000, 1000, 1000, 1000, 1000, 1000, 1000, 1000, 1000};

    private Answers() {
    }

    private static String told(Checks.Call call) {
        try {
            return " " + call.answer();
        } catch (RuntimeException e) {
            return " " + e.getClass().getSimpleName();
        }
    }

    static String figures(RetentionVault v) {
        StringBuilder text = new StringBuilder(" link ").append(v.link());
        for (int k = 0; k <= 5; k++) {
            int figure = k;
            text.append(k == 0 ? ", figures" : "").append(told(() -> v.figure(figure)));
        }
        return text.toString();
    }

    private static String versions(RetentionVault v, int first, int last) {
        StringBuilder text = new StringBuilder();
        for (int i = first; i <= last; i++) {
            int version = i;
            text.append("; ").append(version).append(" about");
            for (int what = 0; what <= 7; what++) {
                int w = what;
                text.append(told(() -> v.about(version, w)));
            }
            text.append(" read").append(told(() -> v.read(version)));
            text.append(" current").append(told(() -> v.current(v.about(version, 0))));
        }
        return text.toString();
    }

    private static String log(RetentionVault v, int first, int last) {
        StringBuilder text = new StringBuilder();
        for (int i = first; i <= last; i++) {
            int k = i;
            text.append("; ");
            for (int what = 0; what <= 3; what++) {
                int w = what;
                text.append(told(() -> v.entry(k, w)));
            }
        }
        return text.toString();
    }

    /** Shows the rules and the fetched days too. */
    private static String comingDays(RetentionVault v) {
        StringBuilder text = new StringBuilder();
        for (int days : STEPS) {
            text.append("; tick").append(told(() -> v.tick(days))).append(" link").append(told(v::link));
            for (int i = 0; i <= 9; i++) {
                int version = i;
                text.append(told(() -> v.read(version)));
            }
        }
        return text.toString();
    }

    private static String emptiedRules(RetentionVault v) {
        StringBuilder text = new StringBuilder("; unrule");
        for (int i = 0; i <= 5; i++) {
            int rule = i;
            text.append(told(() -> v.unrule(rule) ? 1 : 0));
        }
        return text.append(figures(v)).toString();
    }

    /** Shows which retentions are strict too. */
    private static String erased(RetentionVault v, boolean force) {
        StringBuilder text = new StringBuilder(force ? "; erase by force" : "; erase");
        for (int i = 0; i <= 45; i++) {
            int version = i;
            text.append(told(() -> v.erase(version, force)));
        }
        return text.append(figures(v)).toString();
    }

    private static String nextNumbers(RetentionVault v) {
        return "; put" + told(() -> v.put(10, 1, 0)) + ", mark" + told(() -> v.mark(11)) + figures(v);
    }
}
