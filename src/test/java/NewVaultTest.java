/** Promise 1: no versions, no rules, an empty log. */
final class NewVaultTest {
    public static void main(String[] args) {
        RetentionVault v = new RetentionVault();
        for (int k = 0; k <= 5; k++) {
            int figure = k;
            Checks.due("figure(" + k + ")", 0, () -> v.figure(figure));
        }
        Checks.due("link()", 7, v::link);
        Checks.outOfBounds(v, "entry(0, 0)", () -> v.entry(0, 0));
        Checks.missing(v, "about(0, 0)", () -> v.about(0, 0));
        Checks.missing(v, "current(0)", () -> v.current(0));
        for (int rule = 0; rule <= 5; rule++) {
            int r = rule;
            Checks.due("unrule(" + rule + ")", 0, () -> v.unrule(r) ? 1 : 0);
        }
        twoVaultsShareNothing();
        noRuleChangesAnything();
        Checks.end();
    }

    private static void twoVaultsShareNothing() {
        RetentionVault one = new RetentionVault();
        RetentionVault other = new RetentionVault();
        one.put(1, 1, 1);
        one.rule(0, -1, true, 0, 1);
        Checks.due("other.figure(1)", 0, () -> other.figure(1));
        Checks.due("other.figure(3)", 0, () -> other.figure(3));
        Checks.due("other.unrule(0)", false, other.unrule(0));
        Checks.due("other.link()", 7, other::link);
    }

    private static void noRuleChangesAnything() {
        RetentionVault v = new RetentionVault();
        v.put(0, 1, 0);
        v.put(0, 1, 0);
        Checks.due("tick(1000)", 0, () -> v.tick(1000));
        Checks.due("figure(1)", 2, () -> v.figure(1));
    }
}
