/** Promise 12: which current is refused. */
final class CurrentBoundsTest {
    public static void main(String[] args) {
        Checks.sentence("12: No such element: the key has no version", CurrentBoundsTest::noVersion);
        Checks.sentence("12: or a marker", CurrentBoundsTest::marker);
        Checks.sentence("12: (current changes nothing)", CurrentBoundsTest::noChange);
        Checks.end();
    }

    private static void noVersion() {
        int[] keys = {Scenes.UNKNOWN_KEY, 0, -10, Integer.MIN_VALUE, Integer.MAX_VALUE};
        for (int key : keys) {
            Bounds.missing(Scenes::busy, "current(" + key + ")", v -> v.current(key));
            Bounds.missing(Scenes::full, "current(" + key + ") when it is full", v -> v.current(key));
        }
        Bounds.missing(CurrentBoundsTest::erased, "a key whose only version was erased", v -> v.current(0));
        Bounds.missing(CurrentBoundsTest::allErased, "the last key of all", v -> v.current(1));
        Bounds.answers(CurrentBoundsTest::erased, "the other key", 1, v -> v.current(1));
        Bounds.answers(Scenes::busy, "the first key", 0, v -> v.current(10));
        Bounds.answers(Scenes::full, "the last key", 40, v -> v.current(140));
    }

    private static RetentionVault erased() {
        RetentionVault v = Scenes.with(2);
        v.erase(0, false);
        return v;
    }

    private static RetentionVault allErased() {
        RetentionVault v = erased();
        v.erase(1, true);
        return v;
    }

    private static void marker() {
        Bounds.missing(Scenes::busy, "a marker above an object", v -> v.current(Scenes.KEY_OF_MARKER));
        Bounds.missing(Scenes::busy, "a lone marker", v -> v.current(Scenes.KEY_OF_LONE_MARKER));
        Bounds.answers(Scenes::busy, "an object above a marker", Scenes.ABOVE_OLD_MARKER, v -> v.current(20));
        Bounds.missing(() -> without(Scenes.ABOVE_OLD_MARKER), "the marker below it", v -> v.current(20));
        Bounds.answers(() -> without(Scenes.MARKER), "the object below the marker", Scenes.BELOW_MARKER,
                v -> v.current(Scenes.KEY_OF_MARKER));
    }

    private static RetentionVault without(int version) {
        RetentionVault v = Scenes.busy();
        v.erase(version, false);
        return v;
    }

    private static void noChange() {
        Bounds.changesNothing(Scenes::busy, "current", v -> v.current(Scenes.KEY_OF_WARM));
    }
}
