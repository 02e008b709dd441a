/** Promise 1: each vault begins anew; what is empty then, NewVaultBoundsTest tells. */
final class NewVaultTest {
    public static void main(String[] args) {
        RetentionVault one = new RetentionVault();
        RetentionVault other = new RetentionVault();
        one.put(1, 1, 1);
        one.rule(0, -1, true, 0, 1);
        one.tick(3);
        Checks.due("other.figure(0)", 0, () -> other.figure(0));
        Checks.due("other.figure(1)", 0, () -> other.figure(1));
        Checks.due("other.figure(3)", 0, () -> other.figure(3));
        Checks.due("other.unrule(0)", false, other.unrule(0));
        Checks.due("other.link()", 7, other::link);
        Checks.due("other.put(2, 2, 2)", 0, () -> other.put(2, 2, 2));
        Checks.due("one.about(0, 0)", 1, () -> one.about(0, 0));
        Checks.due("one.about(0, 2)", 1, () -> one.about(0, 2));
        Checks.end();
    }
}
