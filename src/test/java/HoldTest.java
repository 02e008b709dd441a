/** Promise 6: hold. */
final class HoldTest {
    public static void main(String[] args) {
        RetentionVault v = new RetentionVault();
        v.put(1, 10, 0);
        v.put(2, 10, 0);
        v.mark(2);
        v.tick(6);
        Checks.due("off, and was off", false, v.hold(0, 3, false));
        Checks.due("no entry", 3, () -> v.figure(3));
        Checks.due("on", true, v.hold(0, 3, true));
        Checks.entryDue(v, 0, 6, 6, 0, 3);
        Checks.due("on again", false, v.hold(0, 3, true));
        Checks.due("one entry", 4, () -> v.figure(3));
        Checks.due("hold 0", true, v.hold(0, 0, true));
        Checks.due("hold 7", true, v.hold(0, 7, true));
        Checks.due("the sum", 8 + 1 + 128, () -> v.about(0, 6));
        Checks.due("the other has none", 0, () -> v.about(1, 6));
        Checks.due("off", true, v.hold(0, 3, false));
        Checks.entryDue(v, 0, 6, 7, 0, 3);
        Checks.due("the sum now", 1 + 128, () -> v.about(0, 6));
        Checks.due("guarded", 1, () -> v.about(0, 7));
        Checks.end();
    }
}
