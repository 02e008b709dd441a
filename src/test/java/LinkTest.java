/** Promise 15: link. */
final class LinkTest {
    public static void main(String[] args) {
        RetentionVault v = new RetentionVault();
        Checks.due("at first", 7, v::link);
        v.tick(2);
        Checks.due("without entries", 7, v::link);
        v.put(-3, 10, 1);
        long one = after(7, 2, 1, 0, -3);
        Checks.due("a negative key", one, v::link);
        Checks.due("link() changes nothing", one, v::link);
        v.put(-3, 10, 1);
        long two = after(one, 2, 1, 1, -3);
        Checks.due("two entries", two, v::link);
        v.hold(0, 5, false);
        v.unrule(0);
        v.read(0);
        Checks.due("calls without entries", two, v::link);
        v.rule(0, -1, false, 0, 4);
        v.tick(1);
        long four = after(after(two, 2, 9, 0, 4), 3, 3, 0, -3);
        Checks.due("a rule and a day", four, v::link);
        Checks.end();
    }

    private static long after(long link, long... entry) {
        long next = link;
        for (long x : entry) {
            next = (next ^ x) * 1099511628211L;
        }
        return next;
    }
}
