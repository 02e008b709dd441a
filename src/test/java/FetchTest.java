/** Promise 9: fetch. */
final class FetchTest {
    public static void main(String[] args) {
        delayByTier();
        wrongInputs();
        whatWasFetchedBeforeCountsNoMore();
        growingColderKeepsTheFetch();
        Checks.end();
    }

    /** A vault on day 1 whose version 0 has this tier, and whose version 1 is a marker. */
    static RetentionVault withTier(int tier) {
        RetentionVault v = new RetentionVault();
        v.put(1, 77, 0);
        v.put(1, 78, 0);
        v.erase(1, false);
        v.mark(1);
        if (tier > 0) {
            v.rule(0, -1, false, 0, tier);
        }
        v.tick(1);
        return v;
    }

    private static void delayByTier() {
        RetentionVault two = withTier(2);
        Checks.due("tier 2", 2, () -> two.fetch(0, 1));
        Checks.entryDue(two, 0, 1, 8, 0, 2);
        RetentionVault three = withTier(3);
        Checks.due("tier 3", 4, () -> three.fetch(0, 100));
        Checks.entryDue(three, 0, 1, 8, 0, 4);
        Checks.due("the same again", 4, () -> three.fetch(0, 100));
        Checks.due("has an entry", 8, () -> three.figure(3));
    }

    private static void wrongInputs() {
        for (int tier = 0; tier <= 1; tier++) {
            RetentionVault warm = withTier(tier);
            Checks.badState(warm, "fetch of a warm one", () -> warm.fetch(0, 1));
            Checks.badArgument(warm, "of a warm one, 0 days", () -> warm.fetch(0, 0));
            Checks.badArgument(warm, "of a warm one, 101 days", () -> warm.fetch(0, 101));
        }
        RetentionVault cold = withTier(2);
        int[] wrong = {0, -1, 101, Integer.MIN_VALUE, Integer.MAX_VALUE};
        for (int days : wrong) {
            Checks.badArgument(cold, "fetch(0, " + days + ")", () -> cold.fetch(0, days));
            Checks.missing(cold, "fetch(1, " + days + ")", () -> cold.fetch(1, days));
            Checks.missing(cold, "fetch(9, " + days + ")", () -> cold.fetch(9, days));
        }
        Checks.missing(cold, "fetch of a marker", () -> cold.fetch(2, 1));
    }

    private static void whatWasFetchedBeforeCountsNoMore() {
        RetentionVault v = withTier(2);
        v.fetch(0, 10);
        v.tick(2);
        Checks.due("read(0)", 77, () -> v.read(0));
        Checks.due("fetched anew", 4, () -> v.fetch(0, 1));
        Checks.badState(v, "the day of the new fetch", () -> v.read(0));
        v.tick(1);
        Checks.due("the day after", 77, () -> v.read(0));
        v.tick(1);
        Checks.badState(v, "the day behind its only day", () -> v.read(0));
    }

    private static void growingColderKeepsTheFetch() {
        RetentionVault v = withTier(2);
        v.fetch(0, 5);
        v.rule(1, -1, false, 0, 3);
        v.tick(1);
        Checks.due("tier", 3, () -> v.about(0, 2));
        Checks.due("read(0)", 77, () -> v.read(0));
        Checks.due("fetched anew", 5, () -> v.fetch(0, 5));
    }
}
