/** Promise 4: erase. */
final class EraseTest {
    public static void main(String[] args) {
        keyAndLog();
        currentFallsBack();
        retained();
        retainedStrictly();
        held();
        Checks.end();
    }

    private static void keyAndLog() {
        RetentionVault v = new RetentionVault();
        v.put(-9, 10, 0);
        v.mark(-9);
        v.tick(0);
        Checks.missing(v, "erase(2)", () -> v.erase(2, true));
        Checks.missing(v, "erase(-1)", () -> v.erase(-1, true));
        Checks.due("erase(1, false)", -9, () -> v.erase(1, false));
        Checks.entryDue(v, 0, 0, 3, 1, -9);
        Checks.missing(v, "erase(1) again", () -> v.erase(1, false));
        Checks.due("erase(0, true)", -9, () -> v.erase(0, true));
        Checks.due("figure(1)", 0, () -> v.figure(1));
        Checks.due("figure(2)", 2, () -> v.figure(2));
    }

    private static void currentFallsBack() {
        RetentionVault v = new RetentionVault();
        v.put(1, 10, 0);
        v.put(2, 99, 0);
        v.tick(1);
        v.put(1, 20, 0);
        v.tick(1);
        v.put(1, 30, 0);
        Checks.due("since of 2", 2, () -> v.about(2, 3));
        v.erase(0, false);
        Checks.due("current(1) after an old one went", 3, () -> v.current(1));
        Checks.due("2 is still not current", 0, () -> v.about(2, 4));
        v.erase(3, false);
        Checks.due("current(1)", 2, () -> v.current(1));
        Checks.due("2 is current", 1, () -> v.about(2, 4));
        Checks.due("since of 2 is the day of its put", 1, () -> v.about(2, 3));
        v.tick(3);
        v.put(1, 40, 0);
        Checks.due("since of 2 is the latest day", 5, () -> v.about(2, 3));
        Checks.due("the other key is as it was", 1, () -> v.current(2));
    }

    private static void retained() {
        RetentionVault v = new RetentionVault();
        v.put(1, 10, 0);
        v.put(1, 10, 0);
        v.retain(0, 2, false);
        v.retain(1, 2, false);
        Checks.badState(v, "erase of a retained one", () -> v.erase(0, false));
        Checks.due("erase by force", 1, () -> v.erase(0, true));
        v.tick(1);
        Checks.badState(v, "erase a day before the end", () -> v.erase(1, false));
        v.tick(1);
        Checks.due("erase on the day of the end", 1, () -> v.erase(1, false));
    }

    private static void retainedStrictly() {
        RetentionVault v = new RetentionVault();
        v.put(1, 10, 0);
        v.retain(0, 2, true);
        Checks.badState(v, "erase of a strictly retained one", () -> v.erase(0, false));
        Checks.badState(v, "the same by force", () -> v.erase(0, true));
        v.tick(1);
        Checks.badState(v, "a day before the end, by force", () -> v.erase(0, true));
        v.tick(1);
        Checks.due("on the day of the end", 1, () -> v.erase(0, false));
        weakAfterStrict();
    }

    private static void weakAfterStrict() {
        RetentionVault v = new RetentionVault();
        v.put(1, 10, 0);
        v.retain(0, 1, true);
        v.tick(1);
        v.retain(0, 5, false);
        Checks.badState(v, "erase without force", () -> v.erase(0, false));
        Checks.due("erase by force", 1, () -> v.erase(0, true));
    }

    private static void held() {
        RetentionVault v = new RetentionVault();
        v.put(1, 10, 0);
        v.hold(0, 0, true);
        v.hold(0, 7, true);
        Checks.badState(v, "erase of a held one", () -> v.erase(0, false));
        Checks.badState(v, "the same by force", () -> v.erase(0, true));
        v.hold(0, 0, false);
        Checks.badState(v, "held by one more", () -> v.erase(0, true));
        v.hold(0, 7, false);
        Checks.due("held no more", 1, () -> v.erase(0, false));
    }
}
