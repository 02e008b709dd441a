/** Promise 13: about. */
final class AboutTest {
    public static void main(String[] args) {
        RetentionVault v = new RetentionVault();
        v.tick(2);
        v.put(-5, 1000000, 3);
        aboutDue(v, 0, -5, 1000000, 0, 2, 1, 0, 0, 0);
        v.retain(0, 4, false);
        v.hold(0, 7, true);
        v.hold(0, 1, true);
        v.rule(0, 3, true, 0, 3);
        v.tick(1);
        aboutDue(v, 0, -5, 1000000, 3, 2, 1, 6, 130, 1);
        v.mark(-5);
        aboutDue(v, 0, -5, 1000000, 3, 3, 0, 6, 130, 1);
        aboutDue(v, 1, -5, 0, -1, 3, 1, 0, 0, 0);
        v.hold(0, 7, false);
        v.hold(0, 1, false);
        v.tick(2);
        aboutDue(v, 0, -5, 1000000, 3, 3, 0, 6, 0, 1);
        v.put(-5, 6, 0);
        aboutDue(v, 1, -5, 0, -1, 5, 0, 0, 0, 0);
        v.tick(1);
        aboutDue(v, 0, -5, 1000000, 3, 3, 0, 6, 0, 0);
        v.hold(0, 0, true);
        aboutDue(v, 0, -5, 1000000, 3, 3, 0, 6, 1, 1);
        Checks.end();
    }

    private static void aboutDue(RetentionVault v, int version, int... want) {
        for (int what = 0; what < want.length; what++) {
            int w = what;
            Checks.due("about(" + version + ", " + what + ")", want[what], () -> v.about(version, w));
        }
    }
}
