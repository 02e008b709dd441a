/** The Terms' boundary cases about versions, their keys, numbers and days. */
final class VersionsBoundsTest {
    private static final int[] KEYS = {0, 1, -1, Integer.MAX_VALUE, Integer.MIN_VALUE, Integer.MIN_VALUE + 1};

    public static void main(String[] args) {
        Checks.sentence("Terms: at most 40 are there", VersionsBoundsTest::atMostForty);
        Checks.sentence("Terms: numbered 0, 1, .. in the order in which they were put", VersionsBoundsTest::numbers);
        Checks.sentence("Terms: a KEY (any int)", VersionsBoundsTest::anyKey);
        Checks.sentence("Terms: the one with the greatest number is CURRENT", VersionsBoundsTest::greatestNumber);
        Checks.sentence("Terms: SINCE is the day on which it was put", VersionsBoundsTest::putDay);
        Checks.sentence("Terms: the day on which it ceased to be (the latest time)", VersionsBoundsTest::ceased);
        Checks.end();
    }

    private static void atMostForty() {
        Bounds.answers(() -> Scenes.with(39), "39, and one put", 40, v -> {
            v.put(0, 1, 0);
            return v.figure(1);
        });
        Bounds.badState(() -> Scenes.with(40), "40, and one put", v -> v.put(0, 1, 0));
        Bounds.badState(() -> Scenes.with(40), "40, and one mark", v -> v.mark(0));
        Bounds.badState(VersionsBoundsTest::markersAndObjects, "20 of them markers, and one put", v -> v.put(50, 1, 0));
        Bounds.badState(VersionsBoundsTest::oneKey, "40 of one key, and one put", v -> v.put(5, 1, 0));
        Bounds.answers(VersionsBoundsTest::oneKey, "40 of one key, a day of expiry", 0, v -> {
            v.rule(0, -1, true, 0, 4);
            return v.tick(1);
        });
    }

    private static RetentionVault markersAndObjects() {
        RetentionVault v = Scenes.with(20);
        for (int key = 0; key < 20; key++) {
            v.mark(key);
        }
        return v;
    }

    private static RetentionVault oneKey() {
        RetentionVault v = new RetentionVault();
        for (int i = 0; i < 40; i++) {
            v.put(5, 1, 0);
        }
        return v;
    }

    private static void numbers() {
        RetentionVault v = new RetentionVault();
        Checks.due("the first put", 0, () -> v.put(3, 1, 0));
        Checks.thrown(IllegalArgumentException.class, "a refused put", () -> v.put(3, 0, 0));
        Checks.due("it took no number", 1, () -> v.put(3, 1, 0));
        Checks.due("a marker takes one", 2, () -> v.mark(3));
        v.erase(2, false);
        Checks.due("one erased is not used again", 3, () -> v.put(3, 1, 0));
        v.rule(0, -1, true, 0, 4);
        v.rule(1, -1, false, 1, 4);
        v.tick(1);
        Checks.due("the marker of a day took one", 2, () -> v.entry(0, 1));
        Checks.due("its number", 4, () -> v.entry(0, 2));
        v.tick(1);
        Checks.due("all are gone", 0, () -> v.figure(1));
        Checks.due("none of them is used again", 5, () -> v.put(3, 1, 0));
    }

    private static void anyKey() {
        RetentionVault v = new RetentionVault();
        for (int i = 0; i < KEYS.length; i++) {
            int number = i;
            Checks.due("put(" + KEYS[i] + ")", i, () -> v.put(KEYS[number], 1, 0));
        }
        for (int i = 0; i < KEYS.length; i++) {
            int key = KEYS[i];
            int number = i;
            Checks.due("current(" + key + ")", i, () -> v.current(key));
            Checks.due("about(" + i + ", 0)", key, () -> v.about(number, 0));
            Checks.due("mark(" + key + ")", KEYS.length + i, () -> v.mark(key));
            Checks.due("detail", key, () -> v.entry(0, 3));
            Checks.thrown(java.util.NoSuchElementException.class, "current", () -> v.current(key));
            Checks.due("erase(" + i + ")", key, () -> v.erase(number, false));
        }
        Checks.due("the lone markers", KEYS.length, () -> v.tick(1));
        for (int i = 0; i < KEYS.length; i++) {
            Checks.entryDue(v, KEYS.length - 1 - i, 1, 3, KEYS.length + i, KEYS[i]);
        }
        anyKeyExpires();
    }

    private static void anyKeyExpires() {
        for (int key : KEYS) {
            RetentionVault v = new RetentionVault();
            v.put(key, 1, 0);
            v.rule(0, -1, true, 0, 4);
            Checks.due("entries", 1, () -> v.tick(1));
            Checks.entryDue(v, 0, 1, 2, 1, key);
        }
    }

    private static void greatestNumber() {
        RetentionVault v = new RetentionVault();
        for (int i = 0; i < 3; i++) {
            v.put(8, 1, 0);
        }
        currentIs(v, 0, 0, 1);
        v.erase(1, false);
        Checks.due("0 is not", 0, () -> v.about(0, 4));
        Checks.due("2 is", 1, () -> v.about(2, 4));
        v.erase(2, false);
        currentIs(v, 1);
        Checks.due("current(8)", 0, () -> v.current(8));
        v.mark(8);
        Checks.due("a marker is current too", 1, () -> v.about(3, 4));
        Checks.due("0 is not any more", 0, () -> v.about(0, 4));
    }

    private static void currentIs(RetentionVault v, int... want) {
        for (int i = 0; i < want.length; i++) {
            int number = i;
            Checks.due("about(" + i + ", 4)", want[i], () -> v.about(number, 4));
        }
    }

    private static void putDay() {
        Bounds.answers(() -> Scenes.with(1), "put on day 0", 0, v -> {
            v.tick(1000);
            return v.about(0, 3);
        });
        Bounds.answers(RetentionVault::new, "put on day 1000", 1000, v -> {
            v.tick(1000);
            return v.about(v.put(1, 1, 0), 3);
        });
        Bounds.answers(() -> Scenes.with(1), "a marker of day 3", 3, v -> {
            v.tick(3);
            return v.about(v.mark(0), 3);
        });
        Bounds.answers(() -> Scenes.with(1), "one that is current again", 0, v -> {
            v.tick(3);
            v.mark(0);
            v.tick(3);
            v.erase(1, false);
            return v.about(0, 3);
        });
    }

    private static void ceased() {
        RetentionVault v = Scenes.with(1);
        sinceIs(v, "current", 0);
        v.tick(2);
        v.put(0, 1, 0);
        sinceIs(v, "it ceased on day 2", 2);
        v.tick(2);
        v.put(0, 1, 0);
        sinceIs(v, "another one ceased on day 4", 2);
        v.erase(1, false);
        sinceIs(v, "another one was erased", 2);
        v.erase(2, false);
        sinceIs(v, "current again", 0);
        v.tick(2);
        v.mark(0);
        sinceIs(v, "it ceased again on day 6", 6);
        v.erase(3, false);
        v.rule(0, -1, true, 0, 4);
        v.tick(1);
        sinceIs(v, "a rule's marker came on day 7", 7);
        v.put(0, 1, 0);
        Checks.due("the marker ceased on day 7", 7, () -> v.about(4, 3));
        v.tick(5);
        Checks.due("and not later", 7, () -> v.about(4, 3));
    }

    private static void sinceIs(RetentionVault v, String why, int day) {
        Checks.due(why, day, () -> v.about(0, 3));
    }
}
