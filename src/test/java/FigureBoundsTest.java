/** Promise 16: which figure is refused, and the smallest and greatest figures. */
final class FigureBoundsTest {
    public static void main(String[] args) {
        Checks.sentence("16: Illegal argument: k is none of these", FigureBoundsTest::k);
        Checks.sentence("16: how many versions there are; how many were put", FigureBoundsTest::counts);
        Checks.sentence("16: the sum of the sizes of all objects", FigureBoundsTest::sizes);
        Checks.sentence("16: how many of them are guarded", FigureBoundsTest::guarded);
        Checks.sentence("16: how many entries the log got in all", FigureBoundsTest::entries);
        Checks.sentence("16: (figure changes nothing)", FigureBoundsTest::noChange);
        Checks.end();
    }

    private static void k() {
        Bounds.range(Scenes::busy, "figure", 0, 5, RetentionVault::figure);
        Bounds.range(RetentionVault::new, "figure of a new vault", 0, 5, RetentionVault::figure);
    }

    private static void counts() {
        int[] some = {0, 1, 39, 40};
        for (int objects : some) {
            Bounds.answers(() -> Scenes.with(objects), "there", objects, v -> v.figure(1));
            Bounds.answers(() -> Scenes.with(objects), "put", objects, v -> v.figure(2));
        }
        Bounds.answers(() -> fullAndEmptied(1), "there, the last one erased", 0, v -> v.figure(1));
        Bounds.answers(() -> fullAndEmptied(1), "put, all of them erased", 40, v -> v.figure(2));
    }

    private static RetentionVault fullAndEmptied(int size) {
        RetentionVault v = full(size);
        for (int i = 0; i < 40; i++) {
            v.erase(i, true);
        }
        return v;
    }

    private static RetentionVault full(int size) {
        RetentionVault v = new RetentionVault();
        for (int i = 0; i < 40; i++) {
            v.put(i % 7, size, 0);
            v.retain(i, 1, false);
        }
        return v;
    }

    private static void sizes() {
        Bounds.answers(() -> full(1000000), "the greatest sum", 40000000, v -> v.figure(4));
        Bounds.answers(() -> fullAndEmptied(1000000), "of none any more", 0, v -> v.figure(4));
        Bounds.answers(() -> Scenes.with(1), "the smallest sum", 1, v -> v.figure(4));
        Bounds.answers(() -> Scenes.with(1), "a marker adds nothing", 1, v -> {
            v.mark(0);
            return v.figure(4);
        });
    }

    private static void guarded() {
        Bounds.answers(() -> full(1), "all", 40, v -> v.figure(5));
        Bounds.answers(() -> fullAndEmptied(1), "none are there", 0, v -> v.figure(5));
        Bounds.answers(() -> full(1), "none, on the day of the end", 0, v -> {
            v.tick(1);
            return v.figure(5);
        });
        Bounds.answers(() -> full(1), "held and retained is one", 40, v -> {
            v.hold(0, 0, true);
            return v.figure(5);
        });
    }

    private static void entries() {
        Bounds.answers(RetentionVault::new, "none", 0, v -> v.figure(3));
        Bounds.answers(() -> full(1), "more than are kept", 80, v -> v.figure(3));
        Bounds.answers(() -> fullAndEmptied(1), "and all were erased", 120, v -> v.figure(3));
    }

    private static void noChange() {
        for (int i = 0; i <= 5; i++) {
            int k = i;
            Bounds.changesNothing(Scenes::busy, "figure " + k, v -> v.figure(k));
        }
    }
}
