/** The Terms' boundary cases about a day that begins: expiry, full vaults and lone markers. */
final class DayBoundsTest {
    public static void main(String[] args) {
        Checks.sentence("Terms: for each version that is there then, by rising numbers", DayBoundsTest::rising);
        Checks.sentence("Terms: if it is an object", DayBoundsTest::objectsOnly);
        Checks.sentence("Terms: puts a marker for its key (if there are not 40 versions)", DayBoundsTest::full);
        Checks.sentence("Terms: if it is not current and not guarded, takes it away", DayBoundsTest::guarded);
        Checks.sentence("Terms: after one that did so no more rules are looked at for this version",
                DayBoundsTest::noMoreRules);
        Checks.sentence("Terms: (one that could not do so: more rules are looked at)", DayBoundsTest::moreRules);
        Checks.sentence("Terms: all markers that are the only version of their key are taken away",
                DayBoundsTest::loneMarkers);
        Checks.sentence("Terms: (lone markers) by rising numbers", DayBoundsTest::loneMarkersRising);
        Checks.sentence("Terms: Behind that", DayBoundsTest::behindThat);
        Checks.end();
    }

    private static void rising() {
        RetentionVault v = new RetentionVault();
        for (int i = 0; i < 6; i++) {
            v.put(i % 2, 1, i % 3);
        }
        v.rule(0, -1, false, 0, 4);
        v.rule(1, -1, true, 0, 4);
        Checks.due("four taken away, two markers", 6, () -> v.tick(1));
        for (int i = 0; i < 4; i++) {
            Checks.entryDue(v, 5 - i, 1, 3, i, i % 2);
        }
        Checks.entryDue(v, 1, 1, 2, 6, 0);
        Checks.entryDue(v, 0, 1, 2, 7, 1);
        allFortyAreReached();
    }

    private static void allFortyAreReached() {
        RetentionVault v = Scenes.with(40);
        v.rule(5, -1, true, 0, 3);
        Checks.due("entries", 40, () -> v.tick(1));
        for (int i = 0; i < 40; i++) {
            Checks.entryDue(v, 39 - i, 1, 4, i, 3);
        }
        RetentionVault w = new RetentionVault();
        for (int i = 0; i < 40; i++) {
            w.put(1, 1, 0);
        }
        w.rule(0, -1, false, 0, 4);
        Checks.due("all but the current one", 39, () -> w.tick(1));
        Checks.due("which is", 39, () -> w.current(1));
    }

    private static void objectsOnly() {
        for (int i = 1; i <= 4; i++) {
            int action = i;
            Bounds.answers(DayBoundsTest::oldMarkerAndCurrentOne, "entries, action " + action, 0, v -> {
                v.rule(0, 0, true, 0, action);
                v.rule(1, 0, false, 0, action);
                return v.tick(3);
            });
            int[] markers = {1, 4};
            for (int marker : markers) {
                Bounds.answers(DayBoundsTest::oldMarkerAndCurrentOne, "tier of " + marker + ", action " + action, -1,
                        v -> {
                            v.rule(0, -1, true, 0, action);
                            v.rule(1, -1, false, 0, action);
                            v.tick(1);
                            return v.about(marker, 2);
                        });
            }
        }
    }

    /** The markers 1, which is old, and 4, which is current; all objects have the tag 3 and are held. */
    private static RetentionVault oldMarkerAndCurrentOne() {
        RetentionVault v = new RetentionVault();
        v.put(0, 1, 3);
        v.mark(0);
        v.put(0, 1, 3);
        v.put(1, 1, 3);
        v.mark(1);
        int[] objects = {0, 2, 3};
        for (int object : objects) {
            v.hold(object, 0, true);
        }
        return v;
    }

    private static void full() {
        expiryIn(38, 1);
        expiryIn(39, 1);
        expiryIn(40, 0);
        Bounds.answers(() -> expiring(39), "the versions afterwards", 40, v -> {
            v.tick(1);
            return v.figure(1);
        });
        Bounds.answers(() -> expiring(40), "the versions of a full vault afterwards", 40, v -> {
            v.tick(1000);
            return v.figure(1);
        });
        Bounds.answers(() -> expiring(40), "one was erased: the marker comes with the next day", 1, v -> {
            v.tick(5);
            v.erase(7, false);
            return v.tick(1);
        });
        roomForOneOfTwo();
        roomMadeOnTheSameDay();
    }

    private static void expiryIn(int objects, int entries) {
        Bounds.answers(() -> expiring(objects), "entries with " + objects + " versions", entries, v -> v.tick(1));
    }

    /** So many objects; the one numbered 3 is due to expire. */
    private static RetentionVault expiring(int objects) {
        RetentionVault v = new RetentionVault();
        for (int i = 0; i < objects; i++) {
            v.put(i, 1, i == 3 ? 1 : 0);
        }
        v.rule(0, 1, true, 0, 4);
        return v;
    }

    private static void roomForOneOfTwo() {
        RetentionVault v = new RetentionVault();
        for (int i = 0; i < 39; i++) {
            v.put(i, 1, i == 38 || i == 0 ? 1 : 0);
        }
        v.rule(0, 1, true, 0, 4);
        Checks.due("room for one", 1, () -> v.tick(1));
        Checks.entryDue(v, 0, 1, 2, 39, 0);
        Checks.due("the other one is current still", 38, () -> v.current(38));
    }

    private static void roomMadeOnTheSameDay() {
        RetentionVault v = new RetentionVault();
        v.put(1, 1, 1);
        v.put(2, 1, 2);
        v.put(2, 1, 1);
        for (int i = 3; i < 40; i++) {
            v.put(i, 1, 0);
        }
        v.rule(0, 1, true, 0, 4);
        v.rule(1, 2, false, 0, 4);
        Checks.due("one away, and a marker for the one behind it", 2, () -> v.tick(1));
        Checks.entryDue(v, 1, 1, 3, 1, 2);
        Checks.entryDue(v, 0, 1, 2, 40, 2);
        Checks.due("the one before it came too early", 0, () -> v.current(1));
    }

    private static RetentionVault oldOne(boolean retained, boolean held) {
        RetentionVault v = new RetentionVault();
        v.put(1, 1, 0);
        v.put(1, 1, 1);
        if (retained) {
            v.retain(0, 10, false);
        }
        if (held) {
            v.hold(0, 2, true);
        }
        v.rule(0, -1, false, 0, 4);
        return v;
    }

    private static void guarded() {
        Bounds.answers(() -> oldOne(false, false), "entries, not guarded", 1, v -> v.tick(1));
        Bounds.answers(() -> oldOne(true, false), "entries, retained", 0, v -> v.tick(9));
        Bounds.answers(() -> oldOne(true, false), "entries, retained no more", 1, v -> v.tick(10));
        Bounds.answers(() -> oldOne(false, true), "entries, held", 0, v -> v.tick(1000));
        Bounds.answers(() -> oldOne(true, true), "entries, both", 0, v -> v.tick(1000));
        Bounds.answers(() -> oldOne(false, false), "the current one is not taken away", 1, v -> {
            v.rule(0, -1, true, 0, 4);
            v.tick(1);
            return v.about(1, 1);
        });
        RetentionVault v = Scenes.with(1);
        v.retain(0, 10, true);
        v.hold(0, 2, true);
        v.rule(0, -1, true, 0, 4);
        Checks.due("a guard does not keep a current one from its marker", 1, () -> v.tick(1));
        Checks.entryDue(v, 0, 1, 2, 1, 0);
    }

    private static void noMoreRules() {
        Bounds.answers(() -> Scenes.with(1), "entries: a marker, and no colder tier", 1, v -> {
            v.rule(1, -1, true, 0, 4);
            v.rule(2, -1, true, 0, 3);
            v.rule(3, -1, false, 0, 3);
            v.rule(4, -1, false, 0, 4);
            return v.tick(1);
        });
        Bounds.answers(() -> oldOne(false, false), "entries: taken away, and no colder tier", 1, v -> {
            v.rule(1, -1, false, 0, 3);
            v.rule(5, -1, false, 0, 4);
            return v.tick(1);
        });
        Bounds.answers(() -> Scenes.with(1), "entries: a colder tier before the marker", 2, v -> {
            v.rule(0, -1, true, 0, 3);
            v.rule(1, -1, true, 0, 4);
            return v.tick(1);
        });
        Bounds.answers(() -> Scenes.with(2), "entries: the next version has all rules", 3, v -> {
            v.put(7, 1, 1);
            v.rule(1, 0, true, 0, 4);
            v.rule(2, -1, true, 0, 3);
            return v.tick(1);
        });
    }

    private static void moreRules() {
        Bounds.answers(() -> oldOne(true, false), "entries: retained, so colder", 1, v -> {
            v.rule(1, -1, false, 0, 3);
            return v.tick(1);
        });
        Bounds.answers(() -> oldOne(false, true), "entries: held, so colder twice", 2, v -> {
            v.rule(1, -1, false, 0, 1);
            v.rule(2, -1, false, 0, 4);
            v.rule(3, -1, false, 0, 2);
            return v.tick(1);
        });
        Bounds.answers(() -> expiring(40), "entries: no room, so colder", 1, v -> {
            v.rule(5, 1, true, 0, 1);
            return v.tick(1);
        });
        Bounds.answers(() -> expiring(40), "entries: a second rule finds no room either", 0, v -> {
            v.rule(5, 1, true, 0, 4);
            return v.tick(1);
        });
    }

    private static void loneMarkers() {
        Bounds.answers(Scenes::busy, "before the day begins it is there", 1, v -> v.about(Scenes.LONE_MARKER, 4));
        Bounds.answers(Scenes::busy, "entries of a lone marker", 1, v -> v.tick(1));
        Bounds.answers(Scenes::busy, "not with a day that does not begin", 0, v -> v.tick(0));
        Bounds.answers(() -> marked(), "not above an object", 0, v -> v.tick(1000));
        Bounds.answers(() -> marked(), "not below an object", 0, v -> {
            v.put(0, 1, 0);
            v.erase(0, false);
            return v.tick(1000);
        });
        Bounds.answers(() -> marked(), "not when there are two of the key", 0, v -> {
            v.put(0, 1, 0);
            v.mark(0);
            v.erase(0, false);
            v.erase(2, false);
            return v.tick(1000);
        });
        Bounds.answers(() -> marked(), "when the other one of the two is erased", 1, v -> {
            v.put(0, 1, 0);
            v.mark(0);
            v.erase(0, false);
            v.erase(2, false);
            v.erase(1, false);
            return v.tick(1000);
        });
        Bounds.answers(() -> marked(), "though another key has a version", 1, v -> {
            v.put(1, 1, 0);
            v.erase(0, false);
            return v.tick(1);
        });
    }

    private static RetentionVault marked() {
        RetentionVault v = Scenes.with(1);
        v.mark(0);
        return v;
    }

    private static void loneMarkersRising() {
        RetentionVault v = Scenes.with(20);
        for (int key = 19; key >= 0; key--) {
            v.mark(key);
        }
        for (int number = 0; number < 20; number++) {
            v.erase(number, false);
        }
        Checks.due("all twenty go", 20, () -> v.tick(1));
        for (int i = 0; i < 20; i++) {
            Checks.entryDue(v, 19 - i, 1, 3, 20 + i, 19 - i);
        }
        Checks.due("none is left", 0, () -> v.figure(1));
    }

    private static void behindThat() {
        RetentionVault v = marked();
        v.put(5, 1, 3);
        v.rule(0, 0, false, 0, 4);
        v.rule(1, 3, true, 0, 2);
        Checks.due("entries", 3, () -> v.tick(1));
        Checks.entryDue(v, 2, 1, 3, 0, 0);
        Checks.entryDue(v, 1, 1, 4, 2, 2);
        Checks.entryDue(v, 0, 1, 3, 1, 0);
        roomOfALoneMarker();
    }

    private static void roomOfALoneMarker() {
        RetentionVault v = expiring(39);
        v.mark(9);
        v.erase(9, false);
        v.put(1000, 1, 0);
        Checks.due("a lone marker goes too late for this day's expiry", 1, () -> v.tick(1));
        Checks.entryDue(v, 0, 1, 3, 39, 9);
        Checks.due("and in time for the next day's", 1, () -> v.tick(1));
        Checks.entryDue(v, 0, 2, 2, 41, 3);
    }
}
