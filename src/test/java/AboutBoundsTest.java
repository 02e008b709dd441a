/** Promise 13: which about is refused, and what it answers at the edges. */
final class AboutBoundsTest {
    public static void main(String[] args) {
        Checks.sentence("13: No such element", AboutBoundsTest::noVersion);
        Checks.sentence("13: illegal argument: what is none of these", AboutBoundsTest::what);
        Checks.sentence("13: its size, 0 for a marker; its tier, -1 for a marker", AboutBoundsTest::markers);
        Checks.sentence("13: the day until which it is retained (0 if it never was)", AboutBoundsTest::neverRetained);
        Checks.sentence("13: 1 if it is guarded, else 0", AboutBoundsTest::guarded);
        Checks.sentence("13: the one named first, of no such element and illegal argument", AboutBoundsTest::order);
        Checks.sentence("13: (about changes nothing)", AboutBoundsTest::noChange);
        Checks.end();
    }

    private static void noVersion() {
        for (int i = 0; i <= 7; i++) {
            int what = i;
            Bounds.noVersion(Scenes::busy, "about " + what, Scenes.NEXT, (v, number) -> v.about(number, what));
        }
        Bounds.noVersion(Scenes::full, "about", Scenes.NEXT_IN_FULL, (v, number) -> v.about(number, 0));
        Bounds.answers(Scenes::full, "about the first", 10, v -> v.about(0, 0));
        Bounds.answers(Scenes::full, "about the last", 140, v -> v.about(40, 0));
    }

    private static void what() {
        Bounds.range(Scenes::busy, "what of an object", 0, 7, (v, what) -> v.about(Scenes.HELD, what));
        Bounds.range(Scenes::busy, "what of a marker", 0, 7, (v, what) -> v.about(Scenes.MARKER, what));
    }

    private static void markers() {
        int[] markers = {Scenes.MARKER, Scenes.OLD_MARKER, Scenes.LONE_MARKER};
        for (int marker : markers) {
            Bounds.answers(Scenes::busy, "size of a marker", 0, v -> v.about(marker, 1));
            Bounds.answers(Scenes::busy, "tier of a marker", -1, v -> v.about(marker, 2));
            for (int i = 5; i <= 7; i++) {
                int what = i;
                Bounds.answers(Scenes::busy, "about a marker, " + what, 0, v -> v.about(marker, what));
            }
        }
    }

    private static void neverRetained() {
        Bounds.answers(Scenes::busy, "never", 0, v -> v.about(Scenes.WARM, 5));
        Bounds.answers(Scenes::busy, "until day 5", 5, v -> v.about(Scenes.STRICT, 5));
        Bounds.answers(Scenes::busy, "until day 3", 3, v -> v.about(Scenes.RETAINED, 5));
        Bounds.answers(Scenes::busy, "for 0 days on day 1", 1, v -> {
            v.retain(Scenes.WARM, 0, false);
            return v.about(Scenes.WARM, 5);
        });
        Bounds.answers(() -> Scenes.with(1), "for 0 days on day 0", 0, v -> {
            v.retain(0, 0, true);
            return v.about(0, 5);
        });
        Bounds.answers(() -> Scenes.with(1), "long after its end", 2, v -> {
            v.retain(0, 2, true);
            v.tick(1000);
            return v.about(0, 5);
        });
    }

    private static void guarded() {
        int[] days = {0, 1, 2, 3};
        for (int day : days) {
            Bounds.answers(() -> retainedForTwoDays(false), "guarded on day " + day, day < 2 ? 1 : 0, v -> {
                v.tick(day);
                return v.about(0, 7);
            });
            Bounds.answers(() -> retainedForTwoDays(true), "held too, on day " + day, 1, v -> {
                v.tick(day);
                return v.about(0, 7);
            });
        }
    }

    private static RetentionVault retainedForTwoDays(boolean held) {
        RetentionVault v = Scenes.with(1);
        v.retain(0, 2, false);
        if (held) {
            v.hold(0, 7, true);
        }
        return v;
    }

    private static void order() {
        for (int what : Bounds.outside(0, 7)) {
            Bounds.missing(Scenes::busy, "not yet put, " + what, v -> v.about(Scenes.NEXT, what));
            Bounds.missing(Scenes::busy, "gone, " + what, v -> v.about(Scenes.GONE, what));
            Bounds.missing(Scenes::busy, "-1, " + what, v -> v.about(-1, what));
        }
    }

    private static void noChange() {
        for (int i = 0; i <= 7; i++) {
            int what = i;
            Bounds.changesNothing(Scenes::busy, "about " + what, v -> v.about(Scenes.STRICT, what));
        }
    }
}
