/** Promise 6: which hold is refused, and which changes nothing. */
final class HoldBoundsTest {
    public static void main(String[] args) {
        Checks.sentence("6: No such element", HoldBoundsTest::noObject);
        Checks.sentence("6: illegal argument: hold is not 0 .. 7", HoldBoundsTest::holds);
        Checks.sentence("6: whether that changes anything (otherwise there is no entry in the log)",
                HoldBoundsTest::noChange);
        Checks.sentence("6: the one named first, of no such element and illegal argument", HoldBoundsTest::order);
        Checks.end();
    }

    private static void noObject() {
        Bounds.noVersion(Scenes::busy, "hold", Scenes.NEXT, (v, number) -> v.hold(number, 0, true));
        Bounds.noVersion(Scenes::busy, "release", Scenes.NEXT, (v, number) -> v.hold(number, 7, false));
        Bounds.noMarker("hold", (v, number) -> v.hold(number, 7, true));
        Bounds.noMarker("release", (v, number) -> v.hold(number, 0, false));
        Bounds.taken(Scenes::busy, "hold of the first", v -> v.hold(0, 0, true));
        Bounds.taken(Scenes::full, "hold of the last", v -> v.hold(40, 0, true));
    }

    private static void holds() {
        Bounds.range(Scenes::busy, "hold", 0, 7, (v, hold) -> v.hold(Scenes.WARM, hold, true));
        Bounds.range(Scenes::busy, "one more hold", 0, 7, (v, hold) -> v.hold(Scenes.HELD, hold, true));
        Bounds.range(Scenes::busy, "released hold", 0, 7, (v, hold) -> v.hold(Scenes.HELD, hold, false));
        // A shift by one of these is a shift by 0 or by 7.
        int[] wrapping = {32, 39, -32, -25};
        for (int hold : wrapping) {
            Bounds.badArgument(Scenes::busy, "hold " + hold, v -> v.hold(Scenes.WARM, hold, true));
        }
        for (int i = 0; i <= 7; i++) {
            int hold = i;
            Bounds.answers(Scenes::busy, "the sum with hold " + hold, 1 << hold, v -> {
                v.hold(Scenes.WARM, hold, true);
                return v.about(Scenes.WARM, 6);
            });
        }
        Bounds.answers(() -> Scenes.with(1), "the sum of all holds", 255, v -> {
            for (int hold = 0; hold <= 7; hold++) {
                v.hold(0, hold, true);
            }
            return v.about(0, 6);
        });
    }

    private static void noChange() {
        for (int i = 0; i <= 7; i++) {
            int hold = i;
            boolean isOn = hold == 0 || hold == 7;
            String call = "hold " + hold + (isOn ? " on again" : " off again");
            Bounds.answers(Scenes::busy, call, 0, v -> v.hold(Scenes.HELD, hold, isOn) ? 1 : 0);
            Bounds.changesNothing(Scenes::busy, call, v -> v.hold(Scenes.HELD, hold, isOn));
            Bounds.answers(Scenes::busy, "hold " + hold + " changed", 1,
                    v -> v.hold(Scenes.HELD, hold, !isOn) ? 1 : 0);
            Bounds.answers(Scenes::busy, "entries of a change", 1, v -> {
                int before = v.figure(3);
                v.hold(Scenes.HELD, hold, !isOn);
                return v.figure(3) - before;
            });
        }
    }

    private static void order() {
        for (int hold : Bounds.outside(0, 7)) {
            Bounds.missing(Scenes::busy, "no version, hold " + hold, v -> v.hold(Scenes.NEXT, hold, true));
            Bounds.missing(Scenes::busy, "one that is gone, hold " + hold, v -> v.hold(Scenes.GONE, hold, false));
            Bounds.missing(Scenes::busy, "a marker, hold " + hold, v -> v.hold(Scenes.MARKER, hold, true));
        }
    }
}
