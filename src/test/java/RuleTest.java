/** Promise 7: rule. */
final class RuleTest {
    public static void main(String[] args) {
        log();
        wrongInputs();
        tags();
        currentOrNot();
        days();
        aRuleIsReplaced();
        settingChangesNoObject();
        Checks.end();
    }

    private static void log() {
        RetentionVault v = new RetentionVault();
        v.tick(5);
        v.rule(0, -1, true, 0, 1);
        Checks.entryDue(v, 0, 5, 9, 0, 1);
        v.rule(5, 3, false, 10000, 4);
        Checks.entryDue(v, 0, 5, 9, 5, 4);
        v.rule(5, 3, false, 10000, 4);
        Checks.due("the same again has an entry", 3, () -> v.figure(3));
    }

    private static void wrongInputs() {
        RetentionVault v = new RetentionVault();
        int[] outside = {Integer.MIN_VALUE, -2, Integer.MAX_VALUE};
        for (int x : outside) {
            Checks.badArgument(v, "rule " + x, () -> v.rule(x, 0, true, 1, 1));
            Checks.badArgument(v, "tag " + x, () -> v.rule(0, x, true, 1, 1));
            Checks.badArgument(v, "days " + x, () -> v.rule(0, 0, true, x, 1));
            Checks.badArgument(v, "action " + x, () -> v.rule(0, 0, true, 1, x));
        }
        Checks.badArgument(v, "rule -1", () -> v.rule(-1, 0, true, 1, 1));
        Checks.badArgument(v, "rule 6", () -> v.rule(6, 0, true, 1, 1));
        Checks.badArgument(v, "tag 4", () -> v.rule(0, 4, true, 1, 1));
        Checks.badArgument(v, "days -1", () -> v.rule(0, 0, true, -1, 1));
        Checks.badArgument(v, "days 10001", () -> v.rule(0, 0, true, 10001, 1));
        Checks.badArgument(v, "action 0", () -> v.rule(0, 0, true, 1, 0));
        Checks.badArgument(v, "action 5", () -> v.rule(0, 0, true, 1, 5));
        Checks.due("no rule was set", false, v.unrule(0));
    }

    private static void tags() {
        for (int tag = -1; tag <= 3; tag++) {
            RetentionVault v = new RetentionVault();
            for (int i = 0; i <= 3; i++) {
                v.put(i, 1, i);
            }
            v.rule(0, tag, true, 0, 1);
            v.tick(1);
            for (int i = 0; i <= 3; i++) {
                int version = i;
                int want = tag == -1 || tag == i ? 1 : 0;
                Checks.due("tier of tag " + i + ", rule for " + tag, want, () -> v.about(version, 2));
            }
        }
    }

    private static void currentOrNot() {
        RetentionVault v = new RetentionVault();
        v.put(1, 1, 0);
        v.put(1, 1, 0);
        v.rule(0, -1, true, 0, 1);
        v.rule(1, -1, false, 0, 3);
        Checks.due("tick(1)", 2, () -> v.tick(1));
        Checks.due("tier of the old one", 3, () -> v.about(0, 2));
        Checks.due("tier of the current one", 1, () -> v.about(1, 2));
    }

    private static void days() {
        RetentionVault v = new RetentionVault();
        v.tick(7);
        v.put(1, 1, 0);
        v.rule(0, 0, true, 3, 2);
        Checks.due("days 8 and 9", 0, () -> v.tick(2));
        Checks.due("day 10", 1, () -> v.tick(1));
        Checks.due("tier", 2, () -> v.about(0, 2));
        Checks.due("later", 0, () -> v.tick(100));
        RetentionVault w = new RetentionVault();
        w.put(1, 1, 0);
        w.tick(50);
        w.rule(0, 0, true, 3, 2);
        Checks.due("a rule that is overdue", 1, () -> w.tick(1));
    }

    private static void aRuleIsReplaced() {
        RetentionVault v = new RetentionVault();
        v.put(1, 1, 0);
        v.rule(2, -1, true, 1, 3);
        v.rule(2, 0, true, 2, 1);
        Checks.due("the first day", 0, () -> v.tick(1));
        Checks.due("the second day", 1, () -> v.tick(1));
        Checks.due("tier", 1, () -> v.about(0, 2));
    }

    private static void settingChangesNoObject() {
        RetentionVault v = new RetentionVault();
        v.put(1, 1, 0);
        v.rule(0, -1, true, 0, 3);
        Checks.due("tier before the next day", 0, () -> v.about(0, 2));
    }
}
