/** Promise 5: retain. */
final class RetainTest {
    public static void main(String[] args) {
        untilAndLog();
        strict();
        strictIsOver();
        Checks.end();
    }

    private static void untilAndLog() {
        RetentionVault v = new RetentionVault();
        v.put(1, 10, 0);
        v.tick(4);
        v.retain(0, 10, false);
        Checks.entryDue(v, 0, 4, 5, 0, 14);
        Checks.due("about(0, 5)", 14, () -> v.about(0, 5));
        v.retain(0, 3, false);
        Checks.due("shortened", 7, () -> v.about(0, 5));
        v.retain(0, 3, false);
        Checks.due("the same again has an entry", 4, () -> v.figure(3));
        v.retain(0, 0, false);
        Checks.due("until today", 4, () -> v.about(0, 5));
        Checks.due("that is no guard", 0, () -> v.about(0, 7));
        v.retain(0, 10000, false);
        Checks.due("10000 days", 10004, () -> v.about(0, 5));
        Checks.due("guarded", 1, () -> v.about(0, 7));
    }

    private static void strict() {
        RetentionVault v = new RetentionVault();
        v.put(1, 10, 0);
        v.retain(0, 9, false);
        v.retain(0, 5, true);
        Checks.due("weak becomes strict and shorter", 5, () -> v.about(0, 5));
        Checks.badState(v, "an earlier day", () -> v.retain(0, 4, true));
        Checks.badState(v, "today", () -> v.retain(0, 0, true));
        Checks.badState(v, "not strictly, the same day", () -> v.retain(0, 5, false));
        Checks.badState(v, "not strictly, a later day", () -> v.retain(0, 10000, false));
        v.retain(0, 5, true);
        Checks.due("the same again has an entry", 4, () -> v.figure(3));
        v.tick(2);
        Checks.badState(v, "an earlier day, two days on", () -> v.retain(0, 2, true));
        v.retain(0, 3, true);
        Checks.due("the same day", 5, () -> v.about(0, 5));
        v.retain(0, 4, true);
        Checks.due("a later day", 6, () -> v.about(0, 5));
    }

    private static void strictIsOver() {
        RetentionVault v = new RetentionVault();
        v.put(1, 10, 0);
        v.retain(0, 5, true);
        v.tick(4);
        Checks.badState(v, "on the last day", () -> v.retain(0, 9, false));
        v.tick(1);
        Checks.due("about(0, 5) afterwards", 5, () -> v.about(0, 5));
        v.retain(0, 1, false);
        Checks.due("weak afterwards", 6, () -> v.about(0, 5));
        v.retain(0, 0, true);
        Checks.due("strictly until today", 5, () -> v.about(0, 5));
        Checks.due("is not retained", 0, () -> v.about(0, 7));
        v.retain(0, 2, false);
        Checks.due("so weak may follow", 7, () -> v.about(0, 5));
    }
}
