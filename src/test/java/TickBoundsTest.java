/** Promise 11: which tick is refused, and how many days begin. */
final class TickBoundsTest {
    public static void main(String[] args) {
        Checks.sentence("11: Illegal argument: days is not 0 .. 1000", TickBoundsTest::days);
        Checks.sentence("11: So many days begin", TickBoundsTest::soMany);
        Checks.sentence("11: one after the other", TickBoundsTest::oneAfterTheOther);
        Checks.sentence("11: how many entries the log got", TickBoundsTest::entries);
        Checks.end();
    }

    private static void days() {
        Bounds.range(Scenes::busy, "tick", 0, 1000, RetentionVault::tick);
        Bounds.range(RetentionVault::new, "tick of a new vault", 0, 1000, RetentionVault::tick);
    }

    private static void soMany() {
        int[] some = {0, 1, 999, 1000};
        for (int days : some) {
            Bounds.answers(RetentionVault::new, "the day after tick(" + days + ")", days, v -> {
                v.tick(days);
                return v.figure(0);
            });
        }
        Bounds.changesNothing(Scenes::busy, "tick(0)", v -> v.tick(0));
        Bounds.changesNothing(RetentionVault::new, "tick(0) of a new vault", v -> v.tick(0));
        Bounds.answers(TickBoundsTest::ruled, "no rule is looked at in tick(0)", 0, v -> v.tick(0));
        Bounds.answers(TickBoundsTest::ruled, "all of them in tick(1)", 3, v -> v.tick(1));
    }

    /** A day brings a marker, a colder tier and the end of a marker. */
    private static RetentionVault ruled() {
        RetentionVault v = Scenes.with(3);
        v.put(2, 1, 1);
        v.mark(0);
        v.erase(0, false);
        v.rule(0, 1, true, 0, 4);
        v.rule(1, 0, false, 0, 1);
        return v;
    }

    private static void oneAfterTheOther() {
        Bounds.sameLater(Scenes::busy, "tick(9) and nine times tick(1)", v -> v.tick(9), v -> {
            for (int i = 0; i < 9; i++) {
                v.tick(1);
            }
        });
        Bounds.sameLater(Scenes::full, "tick(5) and tick(2), tick(0), tick(3)", v -> v.tick(5), v -> {
            v.tick(2);
            v.tick(0);
            v.tick(3);
        });
    }

    private static void entries() {
        Bounds.answers(RetentionVault::new, "an empty vault", 0, v -> v.tick(1000));
        int[] some = {0, 1, 2, 3, 4, 5, 1000};
        for (int days : some) {
            RetentionVault counted = Scenes.busy();
            int before = counted.figure(3);
            counted.tick(days);
            int got = counted.figure(3) - before;
            Bounds.answers(Scenes::busy, "entries of tick(" + days + ")", got, v -> v.tick(days));
        }
        Bounds.answers(Scenes::busy, "day 2: the lone marker", 1, v -> v.tick(1));
    }
}
