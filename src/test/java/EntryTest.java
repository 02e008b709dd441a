/** Promise 14: entry. */
final class EntryTest {
    public static void main(String[] args) {
        everyKind();
        limits();
        sixtyFourAreKept();
        Checks.end();
    }

    private static void everyKind() {
        RetentionVault v = new RetentionVault();
        v.tick(3);
        v.put(-4, 9, 1);
        v.rule(2, 1, true, 0, 2);
        v.retain(0, 5, false);
        v.hold(0, 6, true);
        v.hold(0, 6, false);
        v.tick(1);
        v.fetch(0, 1);
        v.unrule(2);
        v.mark(-4);
        v.erase(0, true);
        int[][] want = {
            {3, 1, 0, -4}, {3, 9, 2, 2}, {3, 5, 0, 8}, {3, 6, 0, 6}, {3, 7, 0, 6},
            {4, 4, 0, 2}, {4, 8, 0, 5}, {4, 10, 2, 0}, {4, 2, 1, -4}, {4, 3, 0, -4}};
        Checks.due("entries", want.length, () -> v.figure(3));
        for (int i = 0; i < want.length; i++) {
            int[] w = want[i];
            Checks.entryDue(v, want.length - 1 - i, w[0], w[1], w[2], w[3]);
        }
    }

    private static void limits() {
        RetentionVault v = new RetentionVault();
        v.put(1, 1, 1);
        v.put(1, 1, 1);
        Checks.due("entry(1, 2)", 0, () -> v.entry(1, 2));
        Checks.outOfBounds(v, "entry(2, 2)", () -> v.entry(2, 2));
        int[] wrong = {-1, 64, 4000, Integer.MIN_VALUE, Integer.MAX_VALUE};
        for (int x : wrong) {
            Checks.outOfBounds(v, "entry(" + x + ", 0)", () -> v.entry(x, 0));
            Checks.badArgument(v, "entry(0, " + x + ")", () -> v.entry(0, x));
            Checks.badArgument(v, "entry(" + x + ", " + x + ")", () -> v.entry(x, x));
        }
        Checks.badArgument(v, "entry(0, 4)", () -> v.entry(0, 4));
        Checks.badArgument(v, "entry(2, 4)", () -> v.entry(2, 4));
    }

    private static void sixtyFourAreKept() {
        RetentionVault v = new RetentionVault();
        for (int i = 1; i <= 150; i++) {
            v.rule(i % 6, 0, true, 0, 1 + i % 4);
            int written = i;
            int kept = Math.min(i, 64);
            Checks.due("entries", i, () -> v.figure(3));
            for (int k = 0; k < kept; k++) {
                Checks.entryDue(v, k, 0, 9, (written - k) % 6, 1 + (written - k) % 4);
            }
            Checks.outOfBounds(v, "entry(" + kept + ", 0)", () -> v.entry(kept, 0));
        }
    }
}
