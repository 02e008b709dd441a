import java.util.List;

/** The Terms' sentence about exceptions, for all calls that can throw. */
final class RefusalsBoundsTest {
    private static final Class<? extends RuntimeException> MISSING = java.util.NoSuchElementException.class;
    private static final Class<? extends RuntimeException> ARGUMENT = IllegalArgumentException.class;
    private static final Class<? extends RuntimeException> STATE = IllegalStateException.class;
    private static final Class<? extends RuntimeException> BOUNDS = IndexOutOfBoundsException.class;

    private record Refusal(Class<? extends RuntimeException> want, String call, Bounds.Step step) {
        void on(RetentionVault v) {
            Checks.thrown(want, call, () -> step.on(v));
        }
    }

    public static void main(String[] args) {
        Checks.sentence("Terms: Of several exceptions that could be thrown the one named first is",
                RefusalsBoundsTest::namedFirst);
        Checks.sentence("Terms: a call that throws changes nothing", RefusalsBoundsTest::changesNothing);
        Checks.sentence("Terms: no such element: also if there is no version with this number",
                RefusalsBoundsTest::noVersion);
        Checks.sentence("Terms: or it is a marker where an object is asked for", RefusalsBoundsTest::marker);
        Checks.end();
    }

    /** Two or three reasons each, in a full vault. */
    private static final List<Refusal> SEVERAL_REASONS = List.of(
            new Refusal(ARGUMENT, "put: size, full", v -> v.put(1, 0, 0)),
            new Refusal(ARGUMENT, "put: tag, full", v -> v.put(1, 1, 4)),
            new Refusal(MISSING, "mark: no version, full", v -> v.mark(Scenes.UNKNOWN_KEY)),
            new Refusal(MISSING, "mark: a marker, full", v -> v.mark(Scenes.KEY_OF_MARKER)),
            new Refusal(MISSING, "retain: no version, days", v -> v.retain(-1, -1, true)),
            new Refusal(MISSING, "retain: a marker, days", v -> v.retain(Scenes.MARKER, 10001, true)),
            new Refusal(ARGUMENT, "retain: days, not strictly", v -> v.retain(Scenes.STRICT, 10001, false)),
            new Refusal(ARGUMENT, "retain: days, earlier", v -> v.retain(Scenes.STRICT, -1, true)),
            new Refusal(MISSING, "hold: no version, hold", v -> v.hold(-1, 8, true)),
            new Refusal(MISSING, "hold: a marker, hold", v -> v.hold(Scenes.MARKER, -1, false)),
            new Refusal(MISSING, "fetch: no version, days", v -> v.fetch(-1, 0)),
            new Refusal(MISSING, "fetch: a marker, days", v -> v.fetch(Scenes.MARKER, 101)),
            new Refusal(ARGUMENT, "fetch: days, not cold", v -> v.fetch(Scenes.COOL, 101)),
            new Refusal(MISSING, "about: no version, what", v -> v.about(-1, 8)),
            new Refusal(ARGUMENT, "entry: what, k", v -> v.entry(64, 4)));

    /** One reason each, in a full vault. */
    private static final List<Refusal> ONE_REASON = List.of(
            new Refusal(STATE, "put: full", v -> v.put(1, 1, 0)),
            new Refusal(STATE, "mark: full", v -> v.mark(Scenes.KEY_OF_WARM)),
            new Refusal(MISSING, "erase: no version", v -> v.erase(Scenes.GONE, true)),
            new Refusal(STATE, "erase: held", v -> v.erase(Scenes.HELD, true)),
            new Refusal(STATE, "erase: retained strictly", v -> v.erase(Scenes.STRICT, true)),
            new Refusal(STATE, "erase: retained", v -> v.erase(Scenes.RETAINED, false)),
            new Refusal(ARGUMENT, "retain: days", v -> v.retain(Scenes.WARM, 10001, true)),
            new Refusal(STATE, "retain: not strictly", v -> v.retain(Scenes.STRICT, 9, false)),
            new Refusal(STATE, "retain: earlier", v -> v.retain(Scenes.STRICT, 3, true)),
            new Refusal(ARGUMENT, "hold: hold", v -> v.hold(Scenes.WARM, 8, true)),
            new Refusal(ARGUMENT, "rule: rule", v -> v.rule(6, 0, true, 0, 1)),
            new Refusal(ARGUMENT, "rule: tag", v -> v.rule(3, 4, true, 0, 1)),
            new Refusal(ARGUMENT, "rule: days", v -> v.rule(3, 0, true, 10001, 1)),
            new Refusal(ARGUMENT, "rule: action", v -> v.rule(3, 0, true, 0, 5)),
            new Refusal(ARGUMENT, "unrule: rule", v -> v.unrule(6)),
            new Refusal(ARGUMENT, "fetch: days", v -> v.fetch(Scenes.COLD, 0)),
            new Refusal(STATE, "fetch: not cold", v -> v.fetch(Scenes.COOL, 1)),
            new Refusal(STATE, "read: not fetched", v -> v.read(Scenes.COLDEST)),
            new Refusal(STATE, "read: not for today", v -> v.read(Scenes.FETCHED)),
            new Refusal(ARGUMENT, "tick: days", v -> v.tick(1001)),
            new Refusal(MISSING, "current: no version", v -> v.current(Scenes.UNKNOWN_KEY)),
            new Refusal(MISSING, "current: a marker", v -> v.current(Scenes.KEY_OF_MARKER)),
            new Refusal(ARGUMENT, "about: what", v -> v.about(Scenes.WARM, 8)),
            new Refusal(BOUNDS, "entry: k", v -> v.entry(64, 0)),
            new Refusal(ARGUMENT, "figure: k", v -> v.figure(6)));

    private static void namedFirst() {
        for (Refusal refusal : SEVERAL_REASONS) {
            refusal.on(Scenes.full());
        }
    }

    private static void changesNothing() {
        for (Refusal refusal : ONE_REASON) {
            Bounds.changesNothing(Scenes::full, refusal.call(), refusal::on);
        }
        Bounds.changesNothing(Scenes::full, "all refused calls, twice", v -> {
            for (int i = 0; i < 2; i++) {
                ONE_REASON.forEach(refusal -> refusal.on(v));
                SEVERAL_REASONS.forEach(refusal -> refusal.on(v));
            }
        });
    }

    private static void noVersion() {
        int[] numbers = {-1, Integer.MIN_VALUE, Integer.MAX_VALUE, Scenes.GONE, Scenes.NEXT, Scenes.NEXT + 1, 40};
        for (int number : numbers) {
            for (Refusal refusal : askedForAnObject(number)) {
                Bounds.changesNothing(Scenes::busy, refusal.call(), refusal::on);
            }
            Bounds.missing(Scenes::busy, "erase of " + number, v -> v.erase(number, true));
            Bounds.missing(Scenes::busy, "about " + number, v -> v.about(number, 0));
        }
    }

    private static List<Refusal> askedForAnObject(int number) {
        return List.of(
                new Refusal(MISSING, "retain of " + number, v -> v.retain(number, 1, true)),
                new Refusal(MISSING, "hold of " + number, v -> v.hold(number, 1, true)),
                new Refusal(MISSING, "release of " + number, v -> v.hold(number, 1, false)),
                new Refusal(MISSING, "fetch of " + number, v -> v.fetch(number, 1)),
                new Refusal(MISSING, "read of " + number, v -> v.read(number)));
    }

    private static void marker() {
        int[] markers = {Scenes.MARKER, Scenes.OLD_MARKER, Scenes.LONE_MARKER};
        for (int marker : markers) {
            for (Refusal refusal : askedForAnObject(marker)) {
                Bounds.changesNothing(Scenes::busy, refusal.call(), refusal::on);
            }
            Bounds.taken(Scenes::busy, "about a marker", v -> v.about(marker, 0));
            Bounds.taken(Scenes::busy, "erase of a marker", v -> v.erase(marker, false));
        }
    }
}
