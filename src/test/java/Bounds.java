import java.util.function.Function;

/** Checks on both sides of a boundary; each of them makes its vaults anew. */
final class Bounds {
    interface Scene {
        RetentionVault make();
    }

    interface Step {
        void on(RetentionVault v);
    }

    interface StepWith {
        void on(RetentionVault v, int x);
    }

    interface Asked {
        long of(RetentionVault v);
    }

    private Bounds() {
    }

    static void answers(Scene scene, String call, long want, Asked asked) {
        RetentionVault v = scene.make();
        Checks.due(call, want, () -> asked.of(v));
    }

    static void taken(Scene scene, String call, Step step) {
        answers(scene, call, 1, v -> {
            step.on(v);
            return 1;
        });
    }

    /** The exception is due, and nothing may ever tell that the call was made. */
    private static void refused(Scene scene, Class<? extends RuntimeException> want, String call, Step step) {
        changesNothing(scene, call, v -> Checks.thrown(want, call, () -> step.on(v)));
    }

    static void missing(Scene scene, String call, Step step) {
        refused(scene, java.util.NoSuchElementException.class, call, step);
    }

    static void badArgument(Scene scene, String call, Step step) {
        refused(scene, IllegalArgumentException.class, call, step);
    }

    static void badState(Scene scene, String call, Step step) {
        refused(scene, IllegalStateException.class, call, step);
    }

    static void outOfBounds(Scene scene, String call, Step step) {
        refused(scene, IndexOutOfBoundsException.class, call, step);
    }

    static void changesNothing(Scene scene, String call, Step step) {
        sameLater(scene, call, step, v -> { });
    }

    /** Two ways that must lead to the same vault. */
    static void sameLater(Scene scene, String call, Step one, Step other) {
        for (Function<RetentionVault, String> way : Answers.WAYS) {
            RetentionVault v = scene.make();
            RetentionVault twin = scene.make();
            one.on(v);
            other.on(twin);
            Checks.same(call, way.apply(twin), way.apply(v));
        }
    }

    /** An argument's range: its ends are taken, all outside is an illegal argument. */
    static void range(Scene scene, String name, int least, int most, StepWith step) {
        taken(scene, name + " " + least, v -> step.on(v, least));
        taken(scene, name + " " + most, v -> step.on(v, most));
        for (int x : outside(least, most)) {
            badArgument(scene, name + " " + x, v -> step.on(v, x));
        }
    }

    /** The neighbours, the farthest ints, and what would be inside in fewer bits. */
    static int[] outside(int least, int most) {
        int[] some = {least - 1, most + 1, Integer.MIN_VALUE, Integer.MAX_VALUE, Integer.MIN_VALUE + least,
            -most, least + 256, most + 65536};
        return java.util.Arrays.stream(some).filter(x -> x < least || x > most).distinct().toArray();
    }

    /** Numbers that no version of this vault has: too small, gone, not yet put. */
    static void noVersion(Scene scene, String name, int next, StepWith step) {
        int[] numbers = {-1, Integer.MIN_VALUE, Integer.MAX_VALUE, Scenes.GONE, next, next + 1};
        for (int number : numbers) {
            missing(scene, name + " of " + number, v -> step.on(v, number));
        }
    }

    /** A call that wants an object. */
    static void noMarker(String name, StepWith step) {
        int[] markers = {Scenes.MARKER, Scenes.OLD_MARKER, Scenes.LONE_MARKER};
        for (int number : markers) {
            missing(Scenes::busy, name + " of the marker " + number, v -> step.on(v, number));
        }
    }
}
