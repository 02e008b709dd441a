import java.util.function.IntConsumer;

/** A vault still answers as the document says in its 512th call; later calls are not looked at. */
final class CallsBoundsTest {
    private static final int LAST = 512;

    public static void main(String[] args) {
        Checks.sentence("An object is used for at most 512 calls: the log", CallsBoundsTest::log);
        Checks.sentence("An object is used for at most 512 calls: the days", CallsBoundsTest::days);
        Checks.sentence("An object is used for at most 512 calls: the versions", CallsBoundsTest::versions);
        Checks.sentence("An object is used for at most 512 calls: a refused one", CallsBoundsTest::refused);
        Checks.end();
    }

    private static void calls(int first, int last, IntConsumer call) {
        for (int i = first; i <= last; i++) {
            call.accept(i);
        }
    }

    private static RetentionVault withEntries(int entries) {
        RetentionVault v = new RetentionVault();
        calls(1, entries, i -> v.rule(i % 6, -1, true, 0, 1 + i % 4));
        return v;
    }

    private static void log() {
        Bounds.answers(() -> withEntries(LAST - 1), "entries", 511, v -> v.figure(3));
        Bounds.answers(() -> withEntries(LAST - 1), "the latest", 511 % 6, v -> v.entry(0, 2));
        Bounds.answers(() -> withEntries(LAST - 1), "the oldest that is kept", 448 % 6, v -> v.entry(63, 2));
        Bounds.answers(() -> withEntries(LAST - 1), "the link", linkOf(LAST - 1), RetentionVault::link);
    }

    private static long linkOf(int entries) {
        long link = 7;
        for (int i = 1; i <= entries; i++) {
            int[] entry = {0, 9, i % 6, 1 + i % 4};
            for (int x : entry) {
                link = (link ^ x) * 1099511628211L;
            }
        }
        return link;
    }

    private static void days() {
        RetentionVault v = new RetentionVault();
        calls(1, LAST - 1, i -> v.tick(1000));
        Checks.due("the last day", 511000, () -> v.figure(0));
        RetentionVault w = new RetentionVault();
        calls(1, LAST - 3, i -> w.tick(1000));
        w.put(1, 1, 0);
        w.retain(0, 10000, true);
        Checks.due("retained until", 519000, () -> w.about(0, 5));
        RetentionVault x = Scenes.with(1);
        x.rule(0, -1, true, 10000, 3);
        calls(3, LAST - 1, i -> x.tick(1000));
        Checks.due("fetched in the last call", 509003, () -> x.fetch(0, 100));
    }

    private static void versions() {
        RetentionVault v = new RetentionVault();
        calls(1, 255, i -> {
            v.put(1, 1, 0);
            v.erase(i - 1, false);
        });
        v.put(1, 1, 0);
        Checks.due("the 256th put", 255, () -> v.current(1));
        RetentionVault w = new RetentionVault();
        w.rule(0, -1, true, 0, 4);
        w.rule(1, -1, false, 0, 4);
        calls(1, 169, i -> {
            w.put(i, 1, 0);
            w.tick(1);
            w.tick(1);
        });
        w.put(0, 1, 0);
        w.tick(2);
        Checks.due("half of them markers", 340, () -> w.figure(2));
    }

    private static void refused() {
        Bounds.answers(() -> withEntries(LAST - 1), "refused", 1, v -> {
            Checks.thrown(IllegalArgumentException.class, "rule", () -> v.rule(6, -1, true, 0, 1));
            return 1;
        });
        RetentionVault v = Scenes.with(40);
        calls(41, LAST - 1, i -> Checks.thrown(IllegalStateException.class, "put", () -> v.put(1, 1, 0)));
        Checks.thrown(IllegalStateException.class, "mark", () -> v.mark(1));
    }
}
