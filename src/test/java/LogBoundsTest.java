/** The Terms' sentence about the log: which changes get an entry, and which calls get none. */
final class LogBoundsTest {
    public static void main(String[] args) {
        Checks.sentence("Terms: 1 an object was put (its key)", LogBoundsTest::objectPut);
        Checks.sentence("Terms: 2 a marker was put (its key)", LogBoundsTest::markerPut);
        Checks.sentence("Terms: 3 a version was taken away (its key)", LogBoundsTest::takenAway);
        Checks.sentence("Terms: 4 an object's tier changed (the new one)", LogBoundsTest::tierChanged);
        Checks.sentence("Terms: 5 an object was retained (until which day)", LogBoundsTest::retained);
        Checks.sentence("Terms: 6 it was held (the hold), 7 it is not held any more (the hold)", LogBoundsTest::held);
        Checks.sentence("Terms: 8 it is fetched (from which day on it can be read)", LogBoundsTest::fetched);
        Checks.sentence("Terms: 9 a rule was set (its action)", LogBoundsTest::ruleSet);
        Checks.sentence("Terms: 10 a rule was emptied (0)", LogBoundsTest::ruleEmptied);
        Checks.sentence("6: whether that changes anything (otherwise there is no entry in the log)",
                LogBoundsTest::holdWithoutChange);
        Checks.sentence("8: whether it was not (otherwise there is no entry in the log)",
                LogBoundsTest::unruleWithoutChange);
        Checks.end();
    }

    private static int[] entry(int day, int kind, int number, int detail) {
        return new int[] {day, kind, number, detail};
    }

    /** The step gets these entries, the latest one last, and no others. */
    private static void logged(Bounds.Scene scene, Bounds.Step step, int[]... entries) {
        RetentionVault v = scene.make();
        int before = v.figure(3);
        step.on(v);
        Checks.due("how many entries", before + entries.length, () -> v.figure(3));
        for (int i = 0; i < entries.length; i++) {
            int[] e = entries[i];
            Checks.entryDue(v, entries.length - 1 - i, e[0], e[1], e[2], e[3]);
        }
    }

    private static void objectPut() {
        int[] keys = {0, -1, Scenes.KEY_OF_WARM, Scenes.KEY_OF_MARKER, Integer.MIN_VALUE, Integer.MAX_VALUE};
        for (int key : keys) {
            logged(Scenes::busy, v -> v.put(key, 1000000, 3), entry(1, 1, Scenes.NEXT, key));
        }
        logged(RetentionVault::new, v -> v.put(-7, 1, 0), entry(0, 1, 0, -7));
    }

    private static void markerPut() {
        logged(Scenes::busy, v -> v.mark(Scenes.KEY_OF_WARM), entry(1, 2, Scenes.NEXT, Scenes.KEY_OF_WARM));
        logged(() -> withRule(1, true, 4), v -> v.tick(2), entry(1, 2, 1, 9));
    }

    /** An object of key 9, and a rule for all tags, due after so many days. */
    private static RetentionVault withRule(int days, boolean current, int action) {
        RetentionVault v = new RetentionVault();
        v.put(9, 1, 0);
        v.rule(0, -1, current, days, action);
        return v;
    }

    private static void takenAway() {
        logged(Scenes::busy, v -> v.erase(Scenes.WARM, false), entry(1, 3, Scenes.WARM, Scenes.KEY_OF_WARM));
        logged(Scenes::busy, v -> v.erase(Scenes.MARKER, false), entry(1, 3, Scenes.MARKER, Scenes.KEY_OF_MARKER));
        logged(Scenes::busy, v -> v.erase(Scenes.RETAINED, true), entry(1, 3, Scenes.RETAINED, 15));
        logged(() -> withRule(2, false, 4), v -> {
            v.mark(9);
            v.tick(3);
        }, entry(0, 2, 1, 9), entry(2, 3, 0, 9), entry(2, 3, 1, 9));
    }

    private static void tierChanged() {
        for (int i = 1; i <= 3; i++) {
            int tier = i;
            logged(() -> withRule(4, true, tier), v -> v.tick(9), entry(4, 4, 0, tier));
        }
        logged(() -> withRule(4, true, 2), v -> {
            v.rule(5, -1, true, 4, 3);
            v.tick(9);
        }, entry(0, 9, 5, 3), entry(4, 4, 0, 2), entry(4, 4, 0, 3));
        logged(() -> Scenes.inTier(2), v -> {
            v.rule(5, -1, true, 0, 1);
            v.tick(9);
        }, entry(1, 9, 5, 1));
    }

    /** Nothing is said of a retain without an entry: so each one gets it. */
    private static void retained() {
        int[] lengths = {0, 1, 2, 10000};
        for (int days : lengths) {
            logged(Scenes::busy, v -> v.retain(Scenes.WARM, days, false), entry(1, 5, Scenes.WARM, 1 + days));
            logged(Scenes::busy, v -> v.retain(Scenes.WARM, days, true), entry(1, 5, Scenes.WARM, 1 + days));
            logged(Scenes::busy, v -> v.retain(Scenes.RETAINED, days, false), entry(1, 5, Scenes.RETAINED, 1 + days));
        }
        logged(Scenes::busy, v -> v.retain(Scenes.STRICT, 4, true), entry(1, 5, Scenes.STRICT, 5));
        logged(() -> Scenes.with(1), v -> {
            v.retain(0, 0, false);
            v.retain(0, 0, false);
        }, entry(0, 5, 0, 0), entry(0, 5, 0, 0));
    }

    private static void held() {
        for (int i = 0; i <= 7; i++) {
            int hold = i;
            logged(Scenes::busy, v -> {
                v.hold(Scenes.WARM, hold, true);
                v.hold(Scenes.WARM, hold, false);
            }, entry(1, 6, Scenes.WARM, hold), entry(1, 7, Scenes.WARM, hold));
        }
    }

    private static void fetched() {
        logged(Scenes::busy, v -> v.fetch(Scenes.COLD, 100), entry(1, 8, Scenes.COLD, 2));
        logged(Scenes::busy, v -> v.fetch(Scenes.COLDEST, 1), entry(1, 8, Scenes.COLDEST, 4));
        logged(Scenes::busy, v -> v.fetch(Scenes.FETCHED, 3), entry(1, 8, Scenes.FETCHED, 2));
    }

    /** Nothing is said of a rule that is set without an entry: so each one gets it. */
    private static void ruleSet() {
        for (int i = 1; i <= 4; i++) {
            int action = i;
            logged(Scenes::busy, v -> v.rule(Scenes.EMPTY_RULE, 2, false, 10000, action),
                    entry(1, 9, Scenes.EMPTY_RULE, action));
        }
        logged(Scenes::busy, v -> {
            v.rule(0, 1, true, 0, 1);
            v.rule(0, 1, true, 0, 1);
        }, entry(1, 9, 0, 1), entry(1, 9, 0, 1));
    }

    private static void ruleEmptied() {
        for (int i = 0; i < Scenes.EMPTY_RULE; i++) {
            int rule = i;
            logged(Scenes::busy, v -> v.unrule(rule), entry(1, 10, rule, 0));
        }
    }

    private static void holdWithoutChange() {
        logged(Scenes::busy, v -> v.hold(Scenes.HELD, 7, true));
        logged(Scenes::busy, v -> v.hold(Scenes.HELD, 6, false));
        logged(Scenes::busy, v -> v.hold(Scenes.WARM, 0, false));
    }

    private static void unruleWithoutChange() {
        logged(Scenes::busy, v -> v.unrule(Scenes.EMPTY_RULE));
        logged(Scenes::busy, v -> {
            v.unrule(0);
            v.unrule(0);
        }, entry(1, 10, 0, 0));
    }
}
