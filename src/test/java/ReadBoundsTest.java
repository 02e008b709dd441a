/** Promise 10: which read is refused. */
final class ReadBoundsTest {
    public static void main(String[] args) {
        Checks.sentence("10: No such element", ReadBoundsTest::noObject);
        Checks.sentence("10: illegal state: it is cold, and is not fetched", ReadBoundsTest::notFetched);
        Checks.sentence("10: or not for the present day", ReadBoundsTest::notToday);
        Checks.sentence("10: (a read changes nothing)", ReadBoundsTest::noChange);
        Checks.end();
    }

    private static void noObject() {
        Bounds.noVersion(Scenes::busy, "read", Scenes.NEXT, RetentionVault::read);
        Bounds.noVersion(Scenes::full, "read", Scenes.NEXT_IN_FULL, RetentionVault::read);
        Bounds.noMarker("read", RetentionVault::read);
        Bounds.missing(ReadBoundsTest::coldOneErased, "read of a cold one that was erased", v -> v.read(0));
        Bounds.answers(Scenes::busy, "read of the first", 100, v -> v.read(0));
        Bounds.answers(Scenes::full, "read of the last", 1, v -> v.read(40));
    }

    private static RetentionVault coldOneErased() {
        RetentionVault v = Scenes.inTier(3);
        v.erase(0, false);
        return v;
    }

    private static void notFetched() {
        Bounds.answers(() -> Scenes.inTier(0), "tier 0", 77, v -> v.read(0));
        Bounds.answers(() -> Scenes.inTier(1), "tier 1", 77, v -> v.read(0));
        Bounds.badState(() -> Scenes.inTier(2), "tier 2", v -> v.read(0));
        Bounds.badState(() -> Scenes.inTier(3), "tier 3", v -> v.read(0));
        Bounds.badState(Scenes::busy, "tier 2, another one is fetched", v -> v.read(Scenes.COLD));
        Bounds.badState(Scenes::busy, "tier 3, another one is fetched", v -> v.read(Scenes.COLDEST));
    }

    /** FETCHED is to be read on the days 2, 3 and 4. */
    private static void notToday() {
        int[] refused = {1, 5, 6, 101, 1001};
        for (int day : refused) {
            Bounds.badState(() -> Scenes.quiet(day), "day " + day, v -> v.read(Scenes.FETCHED));
        }
        int[] taken = {2, 3, 4};
        for (int day : taken) {
            Bounds.answers(() -> Scenes.quiet(day), "day " + day, 104, v -> v.read(Scenes.FETCHED));
        }
    }

    private static void noChange() {
        Bounds.changesNothing(Scenes::busy, "read", v -> v.read(Scenes.WARM));
        Bounds.changesNothing(() -> Scenes.quiet(2), "read of a fetched one", v -> v.read(Scenes.FETCHED));
        Bounds.answers(() -> Scenes.quiet(4), "the second read of a day", 104, v -> {
            v.read(Scenes.FETCHED);
            return v.read(Scenes.FETCHED);
        });
    }
}
