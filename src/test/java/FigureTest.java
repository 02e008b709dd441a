/** Promise 16: figure. */
final class FigureTest {
    public static void main(String[] args) {
        RetentionVault v = new RetentionVault();
        v.put(1, 1000000, 0);
        v.put(1, 20, 0);
        v.put(2, 3, 0);
        figuresDue(v, 0, 3, 3, 3, 1000023, 0);
        v.mark(2);
        figuresDue(v, 0, 4, 4, 4, 1000023, 0);
        v.retain(0, 2, false);
        v.hold(0, 1, true);
        v.hold(2, 0, true);
        figuresDue(v, 0, 4, 4, 7, 1000023, 2);
        v.tick(1);
        v.hold(0, 1, false);
        figuresDue(v, 1, 4, 4, 8, 1000023, 2);
        v.tick(1);
        figuresDue(v, 2, 4, 4, 8, 1000023, 1);
        v.erase(0, false);
        figuresDue(v, 2, 3, 4, 9, 23, 1);
        Checks.end();
    }

    private static void figuresDue(RetentionVault v, int... want) {
        for (int k = 0; k < want.length; k++) {
            int figure = k;
            Checks.due("figure(" + k + ")", want[k], () -> v.figure(figure));
        }
    }
}
