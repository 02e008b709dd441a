import java.math.BigInteger;

/** Promise 15: the link's wrap-around, and what leaves it as it is. */
final class LinkBoundsTest {
    private static final BigInteger FACTOR = new BigInteger("1099511628211");

    public static void main(String[] args) {
        Checks.sentence("Terms: (link exclusive-or x) times 1099511628211, in longs that wrap", LinkBoundsTest::wraps);
        Checks.sentence("Terms: four times, by its numbers in their order", LinkBoundsTest::order);
        Checks.sentence("15: (without an entry the link stays)", LinkBoundsTest::stays);
        Checks.end();
    }

    /** Reckoned without any bound, and only then cut down to 64 bits. */
    private static long after(long link, int... entry) {
        BigInteger next = BigInteger.valueOf(link);
        for (int x : entry) {
            next = BigInteger.valueOf(next.xor(BigInteger.valueOf(x)).multiply(FACTOR).longValue());
        }
        return next.longValue();
    }

    private static void wraps() {
        int[] keys = {0, 1, -1, 255, -256, Integer.MAX_VALUE, Integer.MIN_VALUE};
        for (int key : keys) {
            long due = after(7, 0, 1, 0, key);
            Bounds.answers(() -> putOf(key), "the link of key " + key, due, RetentionVault::link);
        }
        RetentionVault v = new RetentionVault();
        long due = 7;
        for (int i = 0; i < 200; i++) {
            v.rule(i % 6, -1, true, 0, 1 + i % 4);
            due = after(due, 0, 9, i % 6, 1 + i % 4);
            Checks.due("the link of " + i + " entries", due, v::link);
        }
    }

    private static RetentionVault putOf(int key) {
        RetentionVault v = new RetentionVault();
        v.put(key, 1, 0);
        return v;
    }

    private static void order() {
        Bounds.answers(LinkBoundsTest::differentNumbers, "the link", after(after(7, 0, 1, 0, 8), 2, 5, 0, 11),
                RetentionVault::link);
    }

    private static RetentionVault differentNumbers() {
        RetentionVault v = putOf(8);
        v.tick(2);
        v.retain(0, 9, true);
        return v;
    }

    private static void stays() {
        Bounds.changesNothing(Scenes::busy, "link()", RetentionVault::link);
        Bounds.answers(RetentionVault::new, "after empty days", 7, v -> {
            v.tick(1000);
            return v.link();
        });
        Bounds.answers(RetentionVault::new, "after refused calls", 7, v -> {
            Checks.thrown(IllegalArgumentException.class, "put", () -> v.put(1, 0, 0));
            Checks.thrown(IllegalArgumentException.class, "tick", () -> v.tick(-1));
            return v.link();
        });
    }
}
