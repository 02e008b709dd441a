/** Promise 2: put. */
final class PutTest {
    public static void main(String[] args) {
        numbersAndLog();
        numbersAreNotUsedAgain();
        Checks.end();
    }

    private static void numbersAndLog() {
        RetentionVault v = new RetentionVault();
        Checks.due("put(7, 10, 1)", 0, () -> v.put(7, 10, 1));
        v.tick(2);
        Checks.due("put(-7, 20, 2)", 1, () -> v.put(-7, 20, 2));
        Checks.entryDue(v, 1, 0, 1, 0, 7);
        Checks.entryDue(v, 0, 2, 1, 1, -7);
        Checks.due("put(7, 30, 3)", 2, () -> v.put(7, 30, 3));
        Checks.due("current(7)", 2, () -> v.current(7));
        Checks.due("current(-7)", 1, () -> v.current(-7));
        Checks.due("about(0, 4)", 0, () -> v.about(0, 4));
        Checks.due("about(0, 3)", 2, () -> v.about(0, 3));
        Checks.due("about(2, 2)", 0, () -> v.about(2, 2));
        Checks.due("read(2)", 30, () -> v.read(2));
    }

    private static void numbersAreNotUsedAgain() {
        RetentionVault v = new RetentionVault();
        v.put(1, 1, 0);
        v.erase(0, false);
        Checks.due("put(1, 1, 0)", 1, () -> v.put(1, 1, 0));
        Checks.missing(v, "about(0, 0)", () -> v.about(0, 0));
    }
}
