/** Promise 14: which entry is refused. */
final class EntryBoundsTest {
    public static void main(String[] args) {
        Checks.sentence("14: Illegal argument: what is none of these", EntryBoundsTest::what);
        Checks.sentence("14: index out of bounds: k is not 0 .. 63", EntryBoundsTest::notKept);
        Checks.sentence("14: or there were not so many", EntryBoundsTest::notSoMany);
        Checks.sentence("14: the one named first, of illegal argument and index out of bounds",
                EntryBoundsTest::order);
        Checks.sentence("14: (entry changes nothing)", EntryBoundsTest::noChange);
        Checks.end();
    }

    /** So many entries: the one numbered n, from 0 on, tells that rule n % 6 got the action 1 + n % 4. */
    private static RetentionVault withEntries(int entries) {
        RetentionVault v = new RetentionVault();
        for (int n = 0; n < entries; n++) {
            v.rule(n % 6, -1, true, 0, 1 + n % 4);
        }
        return v;
    }

    private static void what() {
        Bounds.range(Scenes::busy, "what", 0, 3, (v, what) -> v.entry(0, what));
        Bounds.range(() -> withEntries(64), "what of the oldest", 0, 3, (v, what) -> v.entry(63, what));
    }

    private static void notKept() {
        int[] counts = {64, 65, 127, 128, 129, 200};
        for (int count : counts) {
            entryIs(count, 0);
            entryIs(count, 63);
            for (int k : Bounds.outside(0, 63)) {
                Bounds.outOfBounds(() -> withEntries(count), "of " + count + ", entry " + k, v -> v.entry(k, 0));
            }
            Bounds.outOfBounds(() -> withEntries(count), "of " + count + ", the first but one",
                    v -> v.entry(Math.max(64, count - 1), 3));
        }
    }

    private static void entryIs(int count, int k) {
        int n = count - 1 - k;
        int[] want = {0, 9, n % 6, 1 + n % 4};
        for (int i = 0; i <= 3; i++) {
            int what = i;
            Bounds.answers(() -> withEntries(count), "of " + count + ", entry(" + k + ", " + what + ")", want[what],
                    v -> v.entry(k, what));
        }
    }

    private static void notSoMany() {
        for (int i = 0; i <= 64; i++) {
            int count = i;
            if (count > 0) {
                entryIs(count, 0);
                entryIs(count, count - 1);
            }
            Bounds.outOfBounds(() -> withEntries(count), "of " + count + ", entry " + count, v -> v.entry(count, 0));
        }
        int[] more = {1, 2, 62, 63};
        for (int k : more) {
            Bounds.outOfBounds(() -> withEntries(1), "of 1, entry " + k, v -> v.entry(k, 3));
        }
    }

    private static void order() {
        for (int what : Bounds.outside(0, 3)) {
            for (int k : Bounds.outside(0, 63)) {
                Bounds.badArgument(Scenes::busy, "entry(" + k + ", " + what + ")", v -> v.entry(k, what));
            }
            Bounds.badArgument(RetentionVault::new, "of none, entry(0, " + what + ")", v -> v.entry(0, what));
            Bounds.badArgument(() -> withEntries(3), "of 3, entry(3, " + what + ")", v -> v.entry(3, what));
        }
    }

    private static void noChange() {
        for (int i = 0; i <= 3; i++) {
            int what = i;
            Bounds.changesNothing(Scenes::busy, "entry", v -> v.entry(5, what));
        }
    }
}
