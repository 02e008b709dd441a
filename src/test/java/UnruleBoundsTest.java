/** Promise 8: which unrule is refused, and which changes nothing. */
final class UnruleBoundsTest {
    public static void main(String[] args) {
        Checks.sentence("8: Illegal argument: rule is not 0 .. 5", UnruleBoundsTest::rule);
        Checks.sentence("8: whether it was not (otherwise there is no entry in the log)", UnruleBoundsTest::empty);
        Checks.end();
    }

    private static void rule() {
        Bounds.range(Scenes::busy, "unrule", 0, 5, RetentionVault::unrule);
        Bounds.range(RetentionVault::new, "unrule in a new vault", 0, 5, RetentionVault::unrule);
    }

    private static void empty() {
        Bounds.answers(Scenes::busy, "an empty rule", 0, v -> v.unrule(Scenes.EMPTY_RULE) ? 1 : 0);
        Bounds.changesNothing(Scenes::busy, "an empty rule", v -> v.unrule(Scenes.EMPTY_RULE));
        for (int i = 0; i <= 5; i++) {
            int rule = i;
            Bounds.answers(() -> onlyRule(rule), "rule " + rule, 1, v -> v.unrule(rule) ? 1 : 0);
            Bounds.answers(() -> onlyRule(rule), "entries of unrule(" + rule + ")", 3, v -> {
                v.unrule(rule);
                return v.figure(3);
            });
            Bounds.answers(() -> onlyRule(rule), "entries of the next day", 0, v -> {
                v.unrule(rule);
                return v.tick(1);
            });
            Bounds.answers(() -> emptied(rule), "rule " + rule + " once more", 0, v -> v.unrule(rule) ? 1 : 0);
            Bounds.changesNothing(() -> emptied(rule), "rule " + rule + " once more", v -> v.unrule(rule));
            Bounds.changesNothing(() -> onlyRule(rule), "another one than " + rule, v -> v.unrule((rule + 1) % 6));
        }
    }

    private static RetentionVault onlyRule(int rule) {
        RetentionVault v = Scenes.with(1);
        v.rule(rule, -1, true, 0, 1);
        return v;
    }

    private static RetentionVault emptied(int rule) {
        RetentionVault v = onlyRule(rule);
        v.unrule(rule);
        return v;
    }
}
