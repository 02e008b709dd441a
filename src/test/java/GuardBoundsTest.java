/** The Terms' boundary cases about what guards an object. */
final class GuardBoundsTest {
    public static void main(String[] args) {
        Checks.sentence("Terms: RETAINED until a day (before that day, that is)", GuardBoundsTest::beforeThatDay);
        Checks.sentence("Terms: GUARDED as long as it is retained or held", GuardBoundsTest::asLongAs);
        Checks.sentence("Terms: HELD by any of the holds 0 .. 7", GuardBoundsTest::anyHold);
        Checks.end();
    }

    /** An old object below a current one, with a rule by which it expires. */
    private static RetentionVault old() {
        RetentionVault v = new RetentionVault();
        v.put(1, 1, 0);
        v.put(1, 1, 0);
        v.rule(0, -1, false, 0, 4);
        return v;
    }

    private static RetentionVault retained(int days, boolean strict) {
        RetentionVault v = old();
        v.retain(0, days, strict);
        return v;
    }

    private static void beforeThatDay() {
        boolean[] both = {false, true};
        for (boolean strict : both) {
            int[] lengths = {2, 3, 1000};
            for (int days : lengths) {
                Bounds.answers(() -> retained(days, strict), "entries before day " + days, 0, v -> v.tick(days - 1));
                Bounds.answers(() -> retained(days, strict), "guarded before day " + days, 1, v -> {
                    v.tick(days - 1);
                    return v.about(0, 7);
                });
                Bounds.answers(() -> retained(days, strict), "entries up to day " + days, 1, v -> v.tick(days));
            }
            Bounds.answers(() -> retained(0, strict), "entries of day 1, until day 0", 1, v -> v.tick(1));
            Bounds.answers(() -> retained(1, strict), "entries of day 1, until day 1", 1, v -> v.tick(1));
            Bounds.answers(() -> retained(0, strict), "guarded on day 0, until day 0", 0, v -> v.figure(5));
            Bounds.answers(() -> retained(1, strict), "guarded on day 0, until day 1", 1, v -> v.figure(5));
        }
    }

    private static void asLongAs() {
        Bounds.answers(GuardBoundsTest::heldAndRetained, "both", 0, v -> v.tick(2));
        Bounds.answers(GuardBoundsTest::heldAndRetained, "only held any more", 0, v -> v.tick(1000));
        Bounds.answers(GuardBoundsTest::heldAndRetained, "only retained any more", 0, v -> {
            v.hold(0, 4, false);
            return v.tick(2);
        });
        Bounds.answers(GuardBoundsTest::heldAndRetained, "neither", 1, v -> {
            v.hold(0, 4, false);
            return v.tick(3);
        });
        Bounds.answers(GuardBoundsTest::old, "never guarded", 1, v -> v.tick(1));
    }

    private static RetentionVault heldAndRetained() {
        RetentionVault v = retained(3, false);
        v.hold(0, 4, true);
        return v;
    }

    private static void anyHold() {
        for (int i = 0; i <= 7; i++) {
            int hold = i;
            Bounds.answers(GuardBoundsTest::old, "entries when held by " + hold, 0, v -> {
                v.hold(0, hold, true);
                return v.tick(10);
            });
            Bounds.answers(GuardBoundsTest::old, "entries when all but " + hold + " are off again", 0, v -> {
                setAll(v, true, -1);
                setAll(v, false, hold);
                return v.tick(10);
            });
        }
        Bounds.answers(GuardBoundsTest::old, "entries when all are off again", 1, v -> {
            setAll(v, true, -1);
            setAll(v, false, -1);
            return v.tick(10);
        });
    }

    private static void setAll(RetentionVault v, boolean on, int butFor) {
        for (int hold = 0; hold <= 7; hold++) {
            if (hold != butFor) {
                v.hold(0, hold, on);
            }
        }
    }
}
