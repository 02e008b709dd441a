/** Promise 12: current. */
final class CurrentTest {
    public static void main(String[] args) {
        RetentionVault v = new RetentionVault();
        Checks.missing(v, "a key without versions", () -> v.current(0));
        v.put(0, 1, 0);
        v.put(-1, 1, 0);
        v.put(0, 1, 0);
        Checks.due("current(0)", 2, () -> v.current(0));
        Checks.due("current(-1)", 1, () -> v.current(-1));
        Checks.missing(v, "another key", () -> v.current(2));
        v.mark(0);
        Checks.missing(v, "a marked key", () -> v.current(0));
        Checks.due("the other key", 1, () -> v.current(-1));
        v.put(0, 1, 0);
        Checks.due("put above the marker", 4, () -> v.current(0));
        v.erase(4, false);
        Checks.missing(v, "the marker again", () -> v.current(0));
        v.erase(3, false);
        Checks.due("behind the marker", 2, () -> v.current(0));
        v.erase(0, false);
        v.erase(2, false);
        Checks.missing(v, "no version any more", () -> v.current(0));
        v.rule(0, -1, true, 0, 3);
        v.tick(1);
        Checks.due("a cold object", 1, () -> v.current(-1));
        Checks.end();
    }
}
