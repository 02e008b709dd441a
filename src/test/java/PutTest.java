/** Promise 2: put. */
final class PutTest {
    public static void main(String[] args) {
        numbersAndLog();
        limitsOfTheArguments();
        fortyVersions();
        numbersAreNotUsedAgain();
        Checks.end();
    }

    private static void numbersAndLog() {
        RetentionVault v = new RetentionVault();
        Checks.due("put(7, 10, 1)", 0, () -> v.put(7, 10, 1));
        v.tick(2);
        Checks.due("put(-7, 20, 2)", 1, () -> v.put(-7, 20, 2));
        Checks.entryDue(v, 1, 0, 1, 0, 7);
        Checks.entryDue(v, 0, 2, 1, 1, -7);
        Checks.due("put(7, 30, 3)", 2, () -> v.put(7, 30, 3));
        Checks.due("current(7)", 2, () -> v.current(7));
        Checks.due("current(-7)", 1, () -> v.current(-7));
        Checks.due("about(0, 4)", 0, () -> v.about(0, 4));
        Checks.due("about(0, 3)", 2, () -> v.about(0, 3));
        Checks.due("about(2, 2)", 0, () -> v.about(2, 2));
        Checks.due("read(2)", 30, () -> v.read(2));
    }

    private static void limitsOfTheArguments() {
        RetentionVault v = new RetentionVault();
        int[] sizes = {0, -1, Integer.MIN_VALUE, 1000001, Integer.MAX_VALUE};
        for (int size : sizes) {
            Checks.badArgument(v, "put(0, " + size + ", 0)", () -> v.put(0, size, 0));
        }
        int[] tags = {-1, 4, Integer.MIN_VALUE, Integer.MAX_VALUE};
        for (int tag : tags) {
            Checks.badArgument(v, "put(0, 1, " + tag + ")", () -> v.put(0, 1, tag));
        }
        Checks.due("put(min, 1, 0)", 0, () -> v.put(Integer.MIN_VALUE, 1, 0));
        Checks.due("put(max, 1000000, 3)", 1, () -> v.put(Integer.MAX_VALUE, 1000000, 3));
        Checks.due("current(min)", 0, () -> v.current(Integer.MIN_VALUE));
        Checks.due("current(max)", 1, () -> v.current(Integer.MAX_VALUE));
    }

    private static void fortyVersions() {
        RetentionVault v = new RetentionVault();
        for (int i = 0; i < 40; i++) {
            int key = i % 3;
            Checks.due("put " + i, i, () -> v.put(key, 1, 0));
        }
        Checks.badState(v, "the 41st put", () -> v.put(0, 1, 0));
        Checks.badArgument(v, "the 41st put with a wrong size", () -> v.put(0, 0, 0));
        Checks.badArgument(v, "the 41st put with a wrong tag", () -> v.put(0, 1, 4));
        v.erase(17, false);
        Checks.due("put after erase", 40, () -> v.put(0, 1, 0));
        Checks.badState(v, "put when full again", () -> v.put(0, 1, 0));
    }

    private static void numbersAreNotUsedAgain() {
        RetentionVault v = new RetentionVault();
        v.put(1, 1, 0);
        v.erase(0, false);
        Checks.due("put(1, 1, 0)", 1, () -> v.put(1, 1, 0));
        Checks.missing(v, "about(0, 0)", () -> v.about(0, 0));
    }
}
