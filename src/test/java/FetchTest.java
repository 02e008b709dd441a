/** Promise 9: fetch. */
final class FetchTest {
    public static void main(String[] args) {
        delayByTier();
        whatWasFetchedBeforeCountsNoMore();
        growingColderKeepsTheFetch();
        Checks.end();
    }

    private static void delayByTier() {
        RetentionVault two = Scenes.inTier(2);
        Checks.due("tier 2", 2, () -> two.fetch(0, 1));
        Checks.entryDue(two, 0, 1, 8, 0, 2);
        RetentionVault three = Scenes.inTier(3);
        Checks.due("tier 3", 4, () -> three.fetch(0, 100));
        Checks.entryDue(three, 0, 1, 8, 0, 4);
        Checks.due("the same again", 4, () -> three.fetch(0, 100));
        Checks.due("has an entry", 5, () -> three.figure(3));
    }

    private static void whatWasFetchedBeforeCountsNoMore() {
        RetentionVault v = Scenes.inTier(2);
        v.fetch(0, 10);
        v.tick(2);
        Checks.due("read(0)", 77, () -> v.read(0));
        Checks.due("fetched anew", 4, () -> v.fetch(0, 1));
        Checks.badState(v, "the day of the new fetch", () -> v.read(0));
        v.tick(1);
        Checks.due("the day after", 77, () -> v.read(0));
        v.tick(1);
        Checks.badState(v, "the day behind its only day", () -> v.read(0));
    }

    private static void growingColderKeepsTheFetch() {
        RetentionVault v = Scenes.inTier(2);
        v.fetch(0, 5);
        v.rule(1, -1, true, 0, 3);
        v.tick(1);
        Checks.due("tier", 3, () -> v.about(0, 2));
        Checks.due("read(0)", 77, () -> v.read(0));
        Checks.due("fetched anew", 5, () -> v.fetch(0, 5));
    }
}
