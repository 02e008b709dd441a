/** Promise 4: erase. */
final class EraseTest {
    public static void main(String[] args) {
        keyAndLog();
        currentFallsBack();
        Checks.end();
    }

    private static void keyAndLog() {
        RetentionVault v = new RetentionVault();
        v.put(-9, 10, 0);
        v.mark(-9);
        v.tick(0);
        Checks.missing(v, "erase(2)", () -> v.erase(2, true));
        Checks.missing(v, "erase(-1)", () -> v.erase(-1, true));
        Checks.due("erase(1, false)", -9, () -> v.erase(1, false));
        Checks.entryDue(v, 0, 0, 3, 1, -9);
        Checks.missing(v, "erase(1) again", () -> v.erase(1, false));
        Checks.due("erase(0, true)", -9, () -> v.erase(0, true));
        Checks.due("figure(1)", 0, () -> v.figure(1));
        Checks.due("figure(2)", 2, () -> v.figure(2));
    }

    private static void currentFallsBack() {
        RetentionVault v = new RetentionVault();
        v.put(1, 10, 0);
        v.put(2, 99, 0);
        v.tick(1);
        v.put(1, 20, 0);
        v.tick(1);
        v.put(1, 30, 0);
        Checks.due("since of 2", 2, () -> v.about(2, 3));
        v.erase(0, false);
        Checks.due("current(1) after an old one went", 3, () -> v.current(1));
        Checks.due("2 is still not current", 0, () -> v.about(2, 4));
        v.erase(3, false);
        Checks.due("current(1)", 2, () -> v.current(1));
        Checks.due("2 is current", 1, () -> v.about(2, 4));
        Checks.due("since of 2 is the day of its put", 1, () -> v.about(2, 3));
        v.tick(3);
        v.put(1, 40, 0);
        Checks.due("since of 2 is the latest day", 5, () -> v.about(2, 3));
        Checks.due("the other key is as it was", 1, () -> v.current(2));
    }
}
