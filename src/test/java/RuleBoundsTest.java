/** Promise 7: which rule is refused. */
final class RuleBoundsTest {
    public static void main(String[] args) {
        Checks.sentence("7: rule is not 0 .. 5", RuleBoundsTest::rule);
        Checks.sentence("7: tag not -1 .. 3", RuleBoundsTest::tag);
        Checks.sentence("7: days not 0 .. 10000", RuleBoundsTest::days);
        Checks.sentence("7: or action not 1 .. 4", RuleBoundsTest::action);
        Checks.sentence("7: (several arguments are illegal)", RuleBoundsTest::several);
        Checks.end();
    }

    private static void rule() {
        Bounds.range(Scenes::busy, "rule", 0, 5, (v, rule) -> v.rule(rule, 0, true, 0, 4));
        for (int i = 0; i <= 5; i++) {
            int rule = i;
            Bounds.answers(() -> Scenes.with(1), "entries of a day with rule " + rule, 1, v -> {
                v.rule(rule, -1, true, 0, 1);
                return v.tick(1);
            });
            Bounds.answers(() -> Scenes.with(1), "rule " + rule + " is set", 1, v -> {
                v.rule(rule, -1, true, 0, 1);
                return v.unrule(rule) ? 1 : 0;
            });
        }
    }

    private static void tag() {
        Bounds.range(Scenes::busy, "tag", -1, 3, (v, tag) -> v.rule(3, tag, true, 0, 4));
        Bounds.range(Scenes::busy, "tag of the empty rule", -1, 3,
                (v, tag) -> v.rule(Scenes.EMPTY_RULE, tag, false, 0, 4));
        for (int i = -1; i <= 3; i++) {
            int tag = i;
            Bounds.answers(RuleBoundsTest::oneOfEachTag, "objects cooled by the tag " + tag, tag < 0 ? 4 : 1, v -> {
                v.rule(0, tag, true, 0, 1);
                return v.tick(1);
            });
        }
    }

    private static RetentionVault oneOfEachTag() {
        RetentionVault v = new RetentionVault();
        for (int tag = 0; tag <= 3; tag++) {
            v.put(tag, 1, tag);
        }
        return v;
    }

    private static void days() {
        Bounds.range(Scenes::busy, "days", 0, 10000, (v, days) -> v.rule(3, -1, true, days, 4));
        Bounds.range(Scenes::busy, "days of the empty rule", 0, 10000,
                (v, days) -> v.rule(Scenes.EMPTY_RULE, -1, false, days, 4));
        Bounds.answers(() -> ruledAfter(0), "entries of the first day, 0 days", 1, v -> v.tick(1));
        Bounds.answers(() -> ruledAfter(10000), "entries of 9999 days, 10000 days", 0, v -> ticked(v, 9999));
        Bounds.answers(() -> ruledAfter(10000), "entries of 10000 days, 10000 days", 1, v -> ticked(v, 10000));
    }

    private static RetentionVault ruledAfter(int days) {
        RetentionVault v = Scenes.with(1);
        v.rule(0, -1, true, days, 1);
        return v;
    }

    /** How many entries so many days bring, though they be more than one tick takes. */
    static int ticked(RetentionVault v, int days) {
        int entries = 0;
        for (int left = days; left > 0; left -= 1000) {
            entries += v.tick(Math.min(left, 1000));
        }
        return entries;
    }

    private static void action() {
        Bounds.range(Scenes::busy, "action", 1, 4, (v, action) -> v.rule(3, 0, true, 0, action));
        Bounds.range(Scenes::busy, "action of the empty rule", 1, 4,
                (v, action) -> v.rule(Scenes.EMPTY_RULE, 0, false, 0, action));
        for (int i = 1; i <= 4; i++) {
            int action = i;
            Bounds.answers(() -> Scenes.with(1), "kind of entry by action " + action, action < 4 ? 4 : 2, v -> {
                v.rule(0, -1, true, 0, action);
                v.tick(1);
                return v.entry(0, 1);
            });
            Bounds.answers(() -> Scenes.with(1), "tier by action " + action, action < 4 ? action : 0, v -> {
                v.rule(0, -1, true, 0, action);
                v.tick(1);
                return v.about(0, 2);
            });
        }
    }

    private static void several() {
        Bounds.badArgument(Scenes::busy, "all too small", v -> v.rule(-1, -2, true, -1, 0));
        Bounds.badArgument(Scenes::busy, "all too large", v -> v.rule(6, 4, false, 10001, 5));
        Bounds.badArgument(Scenes::busy, "no rule, all else right", v -> v.rule(6, -1, true, 0, 1));
        Bounds.badArgument(Scenes::busy, "all but the rule wrong", v -> v.rule(4, 4, true, -1, 5));
    }
}
