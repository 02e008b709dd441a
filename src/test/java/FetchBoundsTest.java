/** Promise 9: which fetch is refused, and from when to when it holds. */
final class FetchBoundsTest {
    public static void main(String[] args) {
        Checks.sentence("9: No such element", FetchBoundsTest::noObject);
        Checks.sentence("9: illegal argument: days is not 1 .. 100", FetchBoundsTest::days);
        Checks.sentence("9: illegal state: it is not cold", FetchBoundsTest::notCold);
        Checks.sentence("9: from tomorrow on (tier 2), or three days from now on (tier 3)", FetchBoundsTest::from);
        Checks.sentence("9: for so many days", FetchBoundsTest::forDays);
        Checks.sentence("9: what was fetched before counts no more", FetchBoundsTest::fetchedAgain);
        Checks.sentence("9: from tomorrow on (tier 2) .. for so many days (though it grows colder meanwhile)",
                FetchBoundsTest::colderMeanwhile);
        Checks.sentence("9: what was fetched before counts no more (also when it has grown colder)",
                FetchBoundsTest::fetchedAgainWhenColder);
        Checks.sentence("9: the one named first", FetchBoundsTest::order);
        Checks.end();
    }

    private static void noObject() {
        Bounds.noVersion(Scenes::busy, "fetch", Scenes.NEXT, (v, number) -> v.fetch(number, 1));
        Bounds.noMarker("fetch", (v, number) -> v.fetch(number, 1));
        Bounds.taken(() -> Scenes.inTier(2), "fetch of the first", v -> v.fetch(0, 1));
    }

    private static void days() {
        Bounds.range(Scenes::busy, "days, tier 2", 1, 100, (v, days) -> v.fetch(Scenes.COLD, days));
        Bounds.range(Scenes::busy, "days, tier 3", 1, 100, (v, days) -> v.fetch(Scenes.COLDEST, days));
        Bounds.range(Scenes::busy, "days, fetched again", 1, 100, (v, days) -> v.fetch(Scenes.FETCHED, days));
    }

    private static void notCold() {
        for (int tier = 0; tier <= 1; tier++) {
            int warm = tier;
            Bounds.badState(() -> Scenes.inTier(warm), "tier " + warm + ", 1 day", v -> v.fetch(0, 1));
            Bounds.badState(() -> Scenes.inTier(warm), "tier " + warm + ", 100 days", v -> v.fetch(0, 100));
        }
        Bounds.badState(FetchBoundsTest::coldTomorrow, "cold from tomorrow on", v -> v.fetch(0, 100));
        Bounds.badArgument(FetchBoundsTest::coldTomorrow, "cold from tomorrow on, 101 days", v -> v.fetch(0, 101));
        Bounds.badState(Scenes::busy, "tier 0, busy", v -> v.fetch(Scenes.WARM, 1));
        Bounds.badState(Scenes::busy, "tier 1, busy", v -> v.fetch(Scenes.COOL, 1));
        for (int tier = 2; tier <= 3; tier++) {
            int cold = tier;
            Bounds.taken(() -> Scenes.inTier(cold), "tier " + cold, v -> v.fetch(0, 1));
        }
    }

    private static RetentionVault coldTomorrow() {
        RetentionVault v = Scenes.inTier(1);
        v.rule(1, -1, true, 2, 2);
        return v;
    }

    private static void from() {
        Bounds.answers(() -> Scenes.inTier(2), "from, tier 2", 2, v -> v.fetch(0, 1));
        Bounds.answers(() -> Scenes.inTier(3), "from, tier 3", 4, v -> v.fetch(0, 1));
        for (int tier = 2; tier <= 3; tier++) {
            int cold = tier;
            int wait = tier == 2 ? 1 : 3;
            for (int i = 0; i < wait; i++) {
                int days = i;
                Bounds.badState(() -> fetched(cold, 100, days), "tier " + cold + ", " + days + " days on",
                        v -> v.read(0));
            }
            Bounds.answers(() -> fetched(cold, 100, wait), "tier " + cold + ", " + wait + " days on", 77,
                    v -> v.read(0));
        }
    }

    /** Fetched for so many days, and then so many days later. */
    private static RetentionVault fetched(int tier, int days, int later) {
        RetentionVault v = Scenes.inTier(tier);
        v.fetch(0, days);
        v.tick(later);
        return v;
    }

    private static void forDays() {
        int[] lengths = {1, 2, 99, 100};
        for (int tier = 2; tier <= 3; tier++) {
            int cold = tier;
            int wait = tier == 2 ? 1 : 3;
            for (int days : lengths) {
                String call = "tier " + tier + ", for " + days + " days, ";
                Bounds.answers(() -> fetched(cold, days, wait), call + "the first", 77, v -> v.read(0));
                Bounds.answers(() -> fetched(cold, days, wait + days - 1), call + "the last", 77, v -> v.read(0));
                Bounds.badState(() -> fetched(cold, days, wait + days), call + "behind the last", v -> v.read(0));
            }
        }
    }

    private static void fetchedAgain() {
        Bounds.badState(FetchBoundsTest::again, "on the day of the second fetch", v -> v.read(0));
        Bounds.answers(FetchBoundsTest::again, "a day later", 77, v -> {
            v.tick(1);
            return v.read(0);
        });
        Bounds.badState(() -> {
            RetentionVault v = again();
            v.tick(2);
            return v;
        }, "behind the second fetch, within the first", v -> v.read(0));
    }

    private static RetentionVault again() {
        RetentionVault v = fetched(2, 100, 5);
        v.fetch(0, 1);
        return v;
    }

    /** Fetched on day 1 in tier 2, to be read on the days 2, 3 and 4; in tier 3 from this day on. */
    private static RetentionVault colderOn(int colder, int today) {
        RetentionVault v = Scenes.inTier(2);
        v.rule(1, -1, true, colder, 3);
        v.fetch(0, 3);
        v.tick(today - 1);
        return v;
    }

    private static void colderMeanwhile() {
        for (int i = 2; i <= 6; i++) {
            int colder = i;
            String call = "colder on day " + colder + ", on day ";
            Bounds.badState(() -> colderOn(colder, 1), call + 1, v -> v.read(0));
            for (int j = 2; j <= 4; j++) {
                int today = j;
                Bounds.answers(() -> colderOn(colder, today), call + today, 77, v -> v.read(0));
            }
            Bounds.badState(() -> colderOn(colder, 5), call + 5, v -> v.read(0));
            Bounds.badState(() -> colderOn(colder, 7), call + 7, v -> v.read(0));
        }
    }

    private static void fetchedAgainWhenColder() {
        Bounds.answers(() -> colderOn(2, 2), "from which day on", 5, v -> v.fetch(0, 1));
        for (int i = 0; i <= 4; i++) {
            int later = i;
            Bounds.Scene scene = () -> {
                RetentionVault v = colderOn(2, 2);
                v.fetch(0, 1);
                v.tick(later);
                return v;
            };
            if (later == 3) {
                Bounds.answers(scene, "on its only day", 77, v -> v.read(0));
            } else {
                Bounds.badState(scene, later + " days on", v -> v.read(0));
            }
        }
    }

    private static void order() {
        for (int days : Bounds.outside(1, 100)) {
            String call = "for " + days + " days";
            Bounds.missing(Scenes::busy, "no version, " + call, v -> v.fetch(Scenes.NEXT, days));
            Bounds.missing(Scenes::busy, "one that is gone, " + call, v -> v.fetch(Scenes.GONE, days));
            Bounds.missing(Scenes::busy, "a marker, " + call, v -> v.fetch(Scenes.MARKER, days));
            Bounds.badArgument(Scenes::busy, "a warm one, " + call, v -> v.fetch(Scenes.WARM, days));
            Bounds.badArgument(Scenes::busy, "a cool one, " + call, v -> v.fetch(Scenes.COOL, days));
        }
    }
}
