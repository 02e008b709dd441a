/** Promise 2: which put is refused. */
final class PutBoundsTest {
    public static void main(String[] args) {
        Checks.sentence("2: size is not 1 .. 1000000", PutBoundsTest::size);
        Checks.sentence("2: or tag not 0 .. 3", PutBoundsTest::tag);
        Checks.sentence("2: illegal state: there are 40 versions", PutBoundsTest::fortyVersions);
        Checks.sentence("2: the one named first, of illegal argument and illegal state", PutBoundsTest::order);
        Checks.end();
    }

    private static void size() {
        Bounds.range(Scenes::busy, "put of size", 1, 1000000, (v, size) -> v.put(1, size, 0));
        Bounds.range(RetentionVault::new, "first put of size", 1, 1000000, (v, size) -> v.put(1, size, 0));
        int[] ends = {1, 1000000};
        for (int size : ends) {
            Bounds.answers(Scenes::busy, "size " + size, size, v -> v.about(v.put(1, size, 0), 1));
            Bounds.answers(Scenes::busy, "size " + size, size, v -> v.read(v.put(1, size, 0)));
        }
    }

    private static void tag() {
        Bounds.range(Scenes::busy, "put of tag", 0, 3, (v, tag) -> v.put(1, 1, tag));
        for (int i = 0; i <= 3; i++) {
            int tag = i;
            Bounds.answers(() -> ruledFor(tag), "tier by a rule for the tag " + tag, 3, v -> {
                int number = v.put(1, 1, tag);
                v.tick(1);
                return v.about(number, 2);
            });
        }
    }

    private static RetentionVault ruledFor(int tag) {
        RetentionVault v = new RetentionVault();
        v.rule(0, tag, true, 1, 3);
        return v;
    }

    private static void fortyVersions() {
        Bounds.answers(() -> Scenes.with(38), "the 39th", 38, v -> v.put(7, 1, 0));
        Bounds.answers(() -> Scenes.with(39), "the 40th", 39, v -> v.put(7, 1, 0));
        Bounds.badState(() -> Scenes.with(40), "the 41st", v -> v.put(7, 1, 0));
        Bounds.badState(() -> Scenes.with(40), "the 41st, of a new key", v -> v.put(40, 1000000, 3));
        Bounds.badState(Scenes::full, "one more in a full vault with markers", v -> v.put(10, 1, 0));
        Bounds.answers(Scenes::full, "put where a marker was erased", Scenes.NEXT_IN_FULL, v -> {
            v.erase(Scenes.MARKER, false);
            return v.put(10, 1, 0);
        });
        Bounds.answers(Scenes::full, "put where the day took a marker away", Scenes.NEXT_IN_FULL, v -> {
            v.tick(1);
            return v.put(10, 1, 0);
        });
        Bounds.badState(PutBoundsTest::fullAgain, "put when it is full again", v -> v.put(7, 1, 0));
    }

    private static RetentionVault fullAgain() {
        RetentionVault v = Scenes.with(40);
        v.erase(0, false);
        v.put(7, 1, 0);
        return v;
    }

    private static void order() {
        Bounds.badArgument(Scenes::full, "a wrong size when it is full", v -> v.put(1, 0, 0));
        Bounds.badArgument(Scenes::full, "a greater size when it is full", v -> v.put(1, 1000001, 0));
        Bounds.badArgument(Scenes::full, "a wrong tag when it is full", v -> v.put(1, 1, -1));
        Bounds.badArgument(Scenes::full, "a greater tag when it is full", v -> v.put(1, 1000000, 4));
        Bounds.badArgument(Scenes::full, "both when it is full", v -> v.put(1, 0, 4));
        Bounds.badArgument(Scenes::busy, "both", v -> v.put(1, 0, 4));
    }
}
