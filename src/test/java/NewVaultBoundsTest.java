/** Promise 1: what is empty. */
final class NewVaultBoundsTest {
    public static void main(String[] args) {
        Checks.sentence("1: No versions", NewVaultBoundsTest::noVersions);
        Checks.sentence("1: no rules", NewVaultBoundsTest::noRules);
        Checks.sentence("1: an empty log", NewVaultBoundsTest::emptyLog);
        Checks.sentence("Terms, days: the present one is 0 at first", NewVaultBoundsTest::dayZero);
        Checks.sentence("Terms: the link is 7 at first", NewVaultBoundsTest::firstLink);
        Checks.end();
    }

    private static void noVersions() {
        int[] figures = {1, 2, 4, 5};
        for (int k : figures) {
            Bounds.answers(RetentionVault::new, "figure(" + k + ")", 0, v -> v.figure(k));
        }
        int[] numbers = {0, 1, -1, Integer.MIN_VALUE, Integer.MAX_VALUE};
        for (int x : numbers) {
            Bounds.missing(RetentionVault::new, "about(" + x + ", 0)", v -> v.about(x, 0));
            Bounds.missing(RetentionVault::new, "current(" + x + ")", v -> v.current(x));
            Bounds.missing(RetentionVault::new, "mark(" + x + ")", v -> v.mark(x));
            Bounds.missing(RetentionVault::new, "erase(" + x + ", true)", v -> v.erase(x, true));
            Bounds.missing(RetentionVault::new, "read(" + x + ")", v -> v.read(x));
        }
    }

    private static void noRules() {
        for (int i = 0; i <= 5; i++) {
            int rule = i;
            Bounds.answers(RetentionVault::new, "unrule(" + i + ")", 0, v -> v.unrule(rule) ? 1 : 0);
            Bounds.changesNothing(RetentionVault::new, "unrule(" + i + ")", v -> v.unrule(rule));
        }
        Bounds.answers(() -> Scenes.with(2), "tick(1000)", 0, v -> v.tick(1000));
    }

    private static void emptyLog() {
        Bounds.answers(RetentionVault::new, "figure(3)", 0, v -> v.figure(3));
        for (int i = 0; i <= 3; i++) {
            int what = i;
            Bounds.outOfBounds(RetentionVault::new, "entry(0, " + i + ")", v -> v.entry(0, what));
        }
    }

    private static void dayZero() {
        Bounds.answers(RetentionVault::new, "figure(0)", 0, v -> v.figure(0));
        Bounds.answers(() -> Scenes.with(1), "the day of the first entry", 0, v -> v.entry(0, 0));
    }

    private static void firstLink() {
        Bounds.answers(RetentionVault::new, "link()", 7, RetentionVault::link);
    }
}
