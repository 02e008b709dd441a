/** Promise 14: entry. */
final class EntryTest {
    public static void main(String[] args) {
        everyKind();
        sixtyFourAreKept();
        Checks.end();
    }

    private static void everyKind() {
        RetentionVault v = new RetentionVault();
        v.tick(3);
        v.put(-4, 9, 1);
        v.rule(2, 1, true, 0, 2);
        v.retain(0, 5, false);
        v.hold(0, 6, true);
        v.hold(0, 6, false);
        v.tick(1);
        v.fetch(0, 1);
        v.unrule(2);
        v.mark(-4);
        v.erase(0, true);
        int[][] want = {
            {3, 1, 0, -4}, {3, 9, 2, 2}, {3, 5, 0, 8}, {3, 6, 0, 6}, {3, 7, 0, 6},
            {4, 4, 0, 2}, {4, 8, 0, 5}, {4, 10, 2, 0}, {4, 2, 1, -4}, {4, 3, 0, -4}};
        Checks.due("entries", want.length, () -> v.figure(3));
        for (int i = 0; i < want.length; i++) {
            int[] w = want[i];
            Checks.entryDue(v, want.length - 1 - i, w[0], w[1], w[2], w[3]);
        }
    }

    /** A vault of its own for each count, for asking for 64 entries takes 256 of its 512 calls. */
    private static void sixtyFourAreKept() {
        for (int written = 1; written <= 150; written++) {
            RetentionVault v = new RetentionVault();
            for (int i = 1; i <= written; i++) {
                v.rule(i % 6, 0, true, 0, 1 + i % 4);
            }
            for (int k = 0; k < Math.min(written, 64); k++) {
                Checks.entryDue(v, k, 0, 9, (written - k) % 6, 1 + (written - k) % 4);
            }
        }
    }
}
