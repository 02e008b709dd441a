/** Promise 5: which retain is refused. */
final class RetainBoundsTest {
    public static void main(String[] args) {
        Checks.sentence("5: No such element", RetainBoundsTest::noObject);
        Checks.sentence("5: illegal argument: days is not 0 .. 10000", RetainBoundsTest::days);
        Checks.sentence("5: illegal state: it is retained strictly, and would not be", RetainBoundsTest::notStrictly);
        Checks.sentence("5: or only until an earlier day", RetainBoundsTest::earlier);
        Checks.sentence("5: (not retained strictly: nothing is in the way)", RetainBoundsTest::weak);
        Checks.sentence("5: the one named first", RetainBoundsTest::order);
        Checks.end();
    }

    private static void noObject() {
        Bounds.noVersion(Scenes::busy, "retain", Scenes.NEXT, (v, number) -> v.retain(number, 1, false));
        Bounds.noVersion(Scenes::busy, "retain strictly", Scenes.NEXT, (v, number) -> v.retain(number, 1, true));
        Bounds.noMarker("retain", (v, number) -> v.retain(number, 1, true));
        Bounds.taken(Scenes::busy, "retain of the first", v -> v.retain(0, 1, true));
        Bounds.taken(Scenes::full, "retain of the last", v -> v.retain(40, 1, true));
    }

    private static void days() {
        Bounds.range(Scenes::busy, "days", 0, 10000, (v, days) -> v.retain(Scenes.WARM, days, false));
        Bounds.range(Scenes::busy, "days, strictly", 0, 10000, (v, days) -> v.retain(Scenes.WARM, days, true));
        Bounds.range(Scenes::busy, "days, anew", 0, 10000, (v, days) -> v.retain(Scenes.RETAINED, days, true));
        untilDue(0, 1, 0);
        untilDue(1, 2, 1);
        untilDue(10000, 10001, 1);
    }

    /** On day 1 for so many days: until which day, and whether that is a guard. */
    private static void untilDue(int days, int until, int guarded) {
        Bounds.answers(Scenes::busy, "until, for " + days + " days", until, v -> {
            v.retain(Scenes.WARM, days, false);
            return v.about(Scenes.WARM, 5);
        });
        Bounds.answers(Scenes::busy, "guarded, for " + days + " days", guarded, v -> {
            v.retain(Scenes.WARM, days, true);
            return v.about(Scenes.WARM, 7);
        });
    }

    /** STRICT is retained until day 5. */
    private static void notStrictly() {
        int[] lengths = {0, 1, 3, 4, 5, 10000};
        for (int days : lengths) {
            Bounds.badState(Scenes::busy, "for " + days + " days", v -> v.retain(Scenes.STRICT, days, false));
        }
        Bounds.badState(() -> Scenes.quiet(4), "on day 4", v -> v.retain(Scenes.STRICT, 10000, false));
        Bounds.taken(() -> Scenes.quiet(5), "on day 5", v -> v.retain(Scenes.STRICT, 0, false));
        Bounds.taken(() -> Scenes.quiet(6), "on day 6", v -> v.retain(Scenes.STRICT, 1, false));
        Bounds.taken(() -> strictUntilToday(), "after strictly for 0 days", v -> v.retain(0, 9, false));
    }

    private static RetentionVault strictUntilToday() {
        RetentionVault v = Scenes.with(1);
        v.retain(0, 0, true);
        return v;
    }

    private static void earlier() {
        int[] shorter = {0, 1, 3};
        for (int days : shorter) {
            Bounds.badState(Scenes::busy, "for " + days + " days", v -> v.retain(Scenes.STRICT, days, true));
        }
        int[] enough = {4, 5, 10000};
        for (int days : enough) {
            Bounds.answers(Scenes::busy, "until, for " + days + " days", 1 + days, v -> {
                v.retain(Scenes.STRICT, days, true);
                return v.about(Scenes.STRICT, 5);
            });
        }
        Bounds.badState(() -> Scenes.quiet(4), "on day 4, until today", v -> v.retain(Scenes.STRICT, 0, true));
        Bounds.taken(() -> Scenes.quiet(4), "on day 4, until day 5", v -> v.retain(Scenes.STRICT, 1, true));
        Bounds.taken(() -> Scenes.quiet(5), "on day 5, until today", v -> v.retain(Scenes.STRICT, 0, true));
        Bounds.badState(() -> lengthened(), "a day before the new end", v -> v.retain(Scenes.STRICT, 9999, true));
        Bounds.taken(() -> lengthened(), "the new end", v -> v.retain(Scenes.STRICT, 10000, true));
    }

    private static RetentionVault lengthened() {
        RetentionVault v = Scenes.busy();
        v.retain(Scenes.STRICT, 10000, true);
        return v;
    }

    private static void weak() {
        int[] lengths = {0, 1, 2, 3, 10000};
        for (int days : lengths) {
            Bounds.answers(Scenes::busy, "not strictly, for " + days + " days", 1 + days, v -> {
                v.retain(Scenes.RETAINED, days, false);
                return v.about(Scenes.RETAINED, 5);
            });
            Bounds.answers(Scenes::busy, "now strictly, for " + days + " days", 1 + days, v -> {
                v.retain(Scenes.RETAINED, days, true);
                return v.about(Scenes.RETAINED, 5);
            });
        }
    }

    private static void order() {
        for (int days : Bounds.outside(0, 10000)) {
            String call = "for " + days + " days";
            Bounds.missing(Scenes::busy, "no version, " + call, v -> v.retain(Scenes.NEXT, days, true));
            Bounds.missing(Scenes::busy, "a marker, " + call, v -> v.retain(Scenes.MARKER, days, true));
            Bounds.badArgument(Scenes::busy, "not strictly, " + call, v -> v.retain(Scenes.STRICT, days, false));
            Bounds.badArgument(Scenes::busy, "strictly, " + call, v -> v.retain(Scenes.STRICT, days, true));
        }
    }
}
