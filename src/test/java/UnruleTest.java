/** Promise 8: unrule. */
final class UnruleTest {
    public static void main(String[] args) {
        RetentionVault v = new RetentionVault();
        v.put(1, 1, 0);
        Checks.due("an empty rule", false, v.unrule(5));
        Checks.due("no entry", 1, () -> v.figure(3));
        v.rule(5, -1, true, 0, 1);
        v.rule(4, -1, true, 1, 2);
        v.tick(0);
        Checks.due("another rule", false, v.unrule(0));
        Checks.due("a set rule", true, v.unrule(5));
        Checks.entryDue(v, 0, 0, 10, 5, 0);
        Checks.due("it is empty now", false, v.unrule(5));
        Checks.due("tick", 1, () -> v.tick(1));
        Checks.due("the other rule still holds", 2, () -> v.about(0, 2));
        v.rule(5, -1, true, 0, 3);
        v.tick(1);
        Checks.due("set again", 3, () -> v.about(0, 2));
        Checks.end();
    }
}
