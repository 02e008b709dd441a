/** Promise 3: mark. */
final class MarkTest {
    public static void main(String[] args) {
        RetentionVault v = new RetentionVault();
        Checks.missing(v, "mark of a key without versions", () -> v.mark(5));
        v.put(5, 10, 1);
        v.tick(3);
        Checks.missing(v, "mark of another key", () -> v.mark(4));
        Checks.due("mark(5)", 1, () -> v.mark(5));
        Checks.entryDue(v, 0, 3, 2, 1, 5);
        Checks.missing(v, "mark of a marked key", () -> v.mark(5));
        Checks.missing(v, "current(5)", () -> v.current(5));
        Checks.due("since of the object", 3, () -> v.about(0, 3));
        Checks.due("since of the marker", 3, () -> v.about(1, 3));
        Checks.due("the marker is current", 1, () -> v.about(1, 4));
        Checks.due("the object is not", 0, () -> v.about(0, 4));
        v.put(5, 20, 1);
        Checks.due("mark above an object above a marker", 3, () -> v.mark(5));
        v.erase(3, false);
        Checks.due("mark after the marker was erased", 4, () -> v.mark(5));
        guardsAreNotInTheWay();
        Checks.end();
    }

    private static void guardsAreNotInTheWay() {
        RetentionVault v = new RetentionVault();
        v.put(1, 1, 0);
        v.retain(0, 5, true);
        v.hold(0, 0, true);
        Checks.due("mark(1)", 1, () -> v.mark(1));
    }
}
