/** Promise 10: read. */
final class ReadTest {
    public static void main(String[] args) {
        warm();
        cold(2, 2);
        cold(3, 4);
        Checks.end();
    }

    private static void warm() {
        for (int tier = 0; tier <= 1; tier++) {
            RetentionVault v = Scenes.inTier(tier);
            Checks.due("tier", tier, () -> v.about(0, 2));
            Checks.due("read of a warm one", 77, () -> v.read(0));
            Checks.due("no entry of a read", v.figure(3), () -> {
                v.read(0);
                return v.figure(3);
            });
        }
    }

    /** Fetched on day 1 for three days. */
    private static void cold(int tier, int from) {
        RetentionVault v = Scenes.inTier(tier);
        Checks.badState(v, "not fetched", () -> v.read(0));
        v.fetch(0, 3);
        for (int day = 1; day <= 20; day++) {
            if (day >= from && day < from + 3) {
                Checks.due("tier " + tier + ", day " + day, 77, () -> v.read(0));
            } else {
                Checks.badState(v, "tier " + tier + ", day " + day, () -> v.read(0));
            }
            v.tick(1);
        }
    }
}
