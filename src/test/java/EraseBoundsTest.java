/** Promise 4: which erase is refused. */
final class EraseBoundsTest {
    public static void main(String[] args) {
        Checks.sentence("4: No such element", EraseBoundsTest::noVersion);
        Checks.sentence("4: Takes a version (also a marker) away", EraseBoundsTest::markers);
        Checks.sentence("4: illegal state: it is held", EraseBoundsTest::held);
        Checks.sentence("4: or retained strictly", EraseBoundsTest::retainedStrictly);
        Checks.sentence("4: or (without force) retained", EraseBoundsTest::retained);
        Checks.sentence("4: force: though it is retained, if not strictly", EraseBoundsTest::force);
        Checks.end();
    }

    private static void noVersion() {
        Bounds.noVersion(Scenes::busy, "erase", Scenes.NEXT, (v, number) -> v.erase(number, false));
        Bounds.noVersion(Scenes::full, "erase by force", Scenes.NEXT_IN_FULL, (v, number) -> v.erase(number, true));
        Bounds.answers(Scenes::busy, "erase of the first", 10, v -> v.erase(0, false));
        Bounds.answers(Scenes::full, "erase of the last", 140, v -> v.erase(40, false));
        Bounds.missing(() -> {
            RetentionVault v = Scenes.with(1);
            v.erase(0, false);
            return v;
        }, "erase of the only one, once more", v -> v.erase(0, true));
    }

    private static void markers() {
        int[] markers = {Scenes.MARKER, Scenes.OLD_MARKER, Scenes.LONE_MARKER};
        int[] keys = {19, 20, 18};
        for (int i = 0; i < markers.length; i++) {
            int marker = markers[i];
            Bounds.answers(Scenes::busy, "erase of the marker " + marker, keys[i], v -> v.erase(marker, false));
            Bounds.answers(Scenes::busy, "by force, of the marker " + marker, keys[i], v -> v.erase(marker, true));
        }
    }

    private static void held() {
        for (int i = 0; i <= 7; i++) {
            int hold = i;
            Bounds.badState(() -> heldBy(hold), "held by " + hold, v -> v.erase(0, false));
            Bounds.badState(() -> heldBy(hold), "held by " + hold + ", by force", v -> v.erase(0, true));
            Bounds.answers(() -> heldBy(hold), "held no more", 0, v -> {
                v.hold(0, hold, false);
                return v.erase(0, false);
            });
        }
        Bounds.badState(() -> released(Scenes.busy(), 0), "still held by 7", v -> v.erase(Scenes.HELD, true));
        Bounds.badState(() -> released(Scenes.busy(), 7), "still held by 0", v -> v.erase(Scenes.HELD, true));
        Bounds.answers(() -> released(released(Scenes.busy(), 7), 0), "held by none", 17,
                v -> v.erase(Scenes.HELD, false));
        Bounds.badState(() -> heldAndRetained(), "held and retained, by force", v -> v.erase(0, true));
    }

    private static RetentionVault heldBy(int hold) {
        RetentionVault v = Scenes.with(1);
        v.hold(0, hold, true);
        return v;
    }

    private static RetentionVault heldAndRetained() {
        RetentionVault v = heldBy(3);
        v.retain(0, 10, false);
        return v;
    }

    private static RetentionVault released(RetentionVault v, int hold) {
        v.hold(Scenes.HELD, hold, false);
        return v;
    }

    /** Retained on day 0 until this day, and then so many days later. */
    private static RetentionVault retainedUntil(int until, boolean strict, int days) {
        RetentionVault v = Scenes.with(1);
        v.retain(0, until, strict);
        v.tick(days);
        return v;
    }

    private static void retainedStrictly() {
        for (int i = 0; i <= 2; i++) {
            int day = i;
            Bounds.badState(() -> retainedUntil(3, true, day), "on day " + day, v -> v.erase(0, false));
            Bounds.badState(() -> retainedUntil(3, true, day), "by force, on day " + day, v -> v.erase(0, true));
        }
        Bounds.answers(() -> retainedUntil(3, true, 3), "on day 3", 0, v -> v.erase(0, false));
        Bounds.answers(() -> retainedUntil(3, true, 3), "by force, on day 3", 0, v -> v.erase(0, true));
        Bounds.answers(() -> retainedUntil(0, true, 0), "strictly until today", 0, v -> v.erase(0, false));
        Bounds.badState(() -> retainedUntil(1, true, 0), "strictly until tomorrow", v -> v.erase(0, true));
        Bounds.badState(Scenes::busy, "in the busy vault", v -> v.erase(Scenes.STRICT, true));
    }

    private static void retained() {
        for (int i = 0; i <= 2; i++) {
            int day = i;
            Bounds.badState(() -> retainedUntil(3, false, day), "on day " + day, v -> v.erase(0, false));
        }
        Bounds.answers(() -> retainedUntil(3, false, 3), "on day 3", 0, v -> v.erase(0, false));
        Bounds.answers(() -> retainedUntil(0, false, 0), "until today", 0, v -> v.erase(0, false));
        Bounds.badState(() -> retainedUntil(1, false, 0), "until tomorrow", v -> v.erase(0, false));
        Bounds.badState(Scenes::busy, "in the busy vault", v -> v.erase(Scenes.RETAINED, false));
    }

    private static void force() {
        for (int i = 0; i <= 3; i++) {
            int day = i;
            Bounds.answers(() -> retainedUntil(3, false, day), "on day " + day, 0, v -> v.erase(0, true));
        }
        Bounds.answers(Scenes::busy, "in the busy vault", 15, v -> v.erase(Scenes.RETAINED, true));
        Bounds.badState(() -> retainedUntil(3, true, 2), "strictly, on the last day", v -> v.erase(0, true));
        Bounds.answers(() -> weakAfterStrict(), "not strictly any more", 0, v -> v.erase(0, true));
        Bounds.badState(() -> weakAfterStrict(), "but retained", v -> v.erase(0, false));
    }

    private static RetentionVault weakAfterStrict() {
        RetentionVault v = retainedUntil(3, true, 3);
        v.retain(0, 5, false);
        return v;
    }
}
