/** Promise 7: rule. */
final class RuleTest {
    public static void main(String[] args) {
        log();
        currentOrNot();
        aRuleIsReplaced();
        settingChangesNoObject();
        Checks.end();
    }

    private static void log() {
        RetentionVault v = new RetentionVault();
        v.tick(5);
        v.rule(0, -1, true, 0, 1);
        Checks.entryDue(v, 0, 5, 9, 0, 1);
        v.rule(5, 3, false, 10000, 4);
        Checks.entryDue(v, 0, 5, 9, 5, 4);
        v.rule(5, 3, false, 10000, 4);
        Checks.due("the same again has an entry", 3, () -> v.figure(3));
    }

    private static void currentOrNot() {
        RetentionVault v = new RetentionVault();
        v.put(1, 1, 0);
        v.put(1, 1, 0);
        v.rule(0, -1, true, 0, 1);
        v.rule(1, -1, false, 0, 3);
        Checks.due("tick(1)", 2, () -> v.tick(1));
        Checks.due("tier of the old one", 3, () -> v.about(0, 2));
        Checks.due("tier of the current one", 1, () -> v.about(1, 2));
    }

    private static void aRuleIsReplaced() {
        RetentionVault v = new RetentionVault();
        v.put(1, 1, 0);
        v.rule(2, -1, true, 1, 3);
        v.rule(2, 0, true, 2, 1);
        Checks.due("the first day", 0, () -> v.tick(1));
        Checks.due("the second day", 1, () -> v.tick(1));
        Checks.due("tier", 1, () -> v.about(0, 2));
    }

    private static void settingChangesNoObject() {
        RetentionVault v = new RetentionVault();
        v.put(1, 1, 0);
        v.rule(0, -1, true, 0, 3);
        Checks.due("tier before the next day", 0, () -> v.about(0, 2));
    }
}
