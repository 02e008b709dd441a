/** Promise 3: which mark is refused. */
final class MarkBoundsTest {
    public static void main(String[] args) {
        Checks.sentence("3: No such element: the key has no version", MarkBoundsTest::noVersion);
        Checks.sentence("3: or its current one is a marker", MarkBoundsTest::marker);
        Checks.sentence("3: illegal state: there are 40 versions", MarkBoundsTest::fortyVersions);
        Checks.sentence("3: the one named first, of no such element and illegal state", MarkBoundsTest::order);
        Checks.end();
    }

    private static void noVersion() {
        int[] keys = {Scenes.UNKNOWN_KEY, 0, -10, Integer.MIN_VALUE, Integer.MAX_VALUE};
        for (int key : keys) {
            Bounds.missing(Scenes::busy, "mark(" + key + ")", v -> v.mark(key));
        }
        Bounds.missing(MarkBoundsTest::erased, "mark of a key whose version was erased", v -> v.mark(0));
        Bounds.missing(MarkBoundsTest::dayAfterLoneMarker, "mark of a key whose marker went with the day",
                v -> v.mark(Scenes.KEY_OF_LONE_MARKER));
        Bounds.answers(Scenes::busy, "mark of a key with one object", Scenes.NEXT, v -> v.mark(Scenes.KEY_OF_WARM));
        Bounds.answers(Scenes::busy, "mark of a held one", Scenes.NEXT, v -> v.mark(17));
    }

    private static RetentionVault erased() {
        RetentionVault v = Scenes.with(2);
        v.erase(0, false);
        return v;
    }

    private static RetentionVault dayAfterLoneMarker() {
        RetentionVault v = Scenes.busy();
        v.tick(1);
        return v;
    }

    private static void marker() {
        Bounds.missing(Scenes::busy, "mark above a marker", v -> v.mark(Scenes.KEY_OF_MARKER));
        Bounds.missing(Scenes::busy, "mark above a lone marker", v -> v.mark(Scenes.KEY_OF_LONE_MARKER));
        Bounds.missing(MarkBoundsTest::expired, "mark above a marker that a rule put", v -> v.mark(0));
        Bounds.missing(MarkBoundsTest::fallenBackToMarker, "mark above a marker that is current again",
                v -> v.mark(20));
        Bounds.answers(Scenes::busy, "mark above an object above a marker", Scenes.NEXT, v -> v.mark(20));
        Bounds.answers(Scenes::busy, "mark where the marker was erased", Scenes.NEXT, v -> {
            v.erase(Scenes.MARKER, false);
            return v.mark(Scenes.KEY_OF_MARKER);
        });
    }

    private static RetentionVault expired() {
        RetentionVault v = Scenes.with(1);
        v.rule(0, -1, true, 1, 4);
        v.tick(1);
        return v;
    }

    private static RetentionVault fallenBackToMarker() {
        RetentionVault v = Scenes.busy();
        v.erase(Scenes.ABOVE_OLD_MARKER, false);
        return v;
    }

    private static void fortyVersions() {
        Bounds.answers(() -> Scenes.with(39), "the 40th", 39, v -> v.mark(0));
        Bounds.badState(() -> Scenes.with(40), "the 41st", v -> v.mark(0));
        Bounds.badState(() -> Scenes.with(40), "the 41st, of the latest key", v -> v.mark(39));
        Bounds.badState(Scenes::full, "in a full vault with markers", v -> v.mark(Scenes.KEY_OF_WARM));
        Bounds.answers(() -> Scenes.with(40), "mark where one was erased", 40, v -> {
            v.erase(5, false);
            return v.mark(0);
        });
    }

    private static void order() {
        Bounds.missing(Scenes::full, "an unknown key when it is full", v -> v.mark(Scenes.UNKNOWN_KEY));
        Bounds.missing(Scenes::full, "a marked key when it is full", v -> v.mark(Scenes.KEY_OF_MARKER));
    }
}
