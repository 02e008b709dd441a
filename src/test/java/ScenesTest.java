/** The busy vault and the full one are what the boundary tests take them for. */
final class ScenesTest {
    public static void main(String[] args) {
        versionsOfTheBusyVault();
        fullVault();
        Checks.end();
    }

    private static void versionsOfTheBusyVault() {
        //             key size tier since current until holds guarded
        int[][] want = {
            {Scenes.WARM, 10, 100, 0, 0, 1, 0, 0, 0},
            {Scenes.COOL, 11, 101, 1, 0, 1, 0, 0, 0},
            {Scenes.COLD, 12, 102, 2, 0, 1, 0, 0, 0},
            {Scenes.COLDEST, 13, 103, 3, 0, 1, 0, 0, 0},
            {Scenes.FETCHED, 14, 104, 2, 0, 1, 0, 0, 0},
            {Scenes.RETAINED, 15, 105, 0, 0, 1, 3, 0, 1},
            {Scenes.STRICT, 16, 106, 0, 0, 1, 5, 0, 1},
            {Scenes.HELD, 17, 107, 0, 0, 1, 0, 129, 1},
            {Scenes.BELOW_MARKER, 19, 109, 0, 1, 0, 0, 0, 0},
            {Scenes.BELOW_OLD_MARKER, 20, 110, 0, 1, 0, 0, 0, 0},
            {Scenes.MARKER, 19, 0, -1, 1, 1, 0, 0, 0},
            {Scenes.OLD_MARKER, 20, 0, -1, 1, 0, 0, 0, 0},
            {Scenes.ABOVE_OLD_MARKER, 20, 113, 0, 1, 1, 0, 0, 0},
            {Scenes.LONE_MARKER, 18, 0, -1, 1, 1, 0, 0, 0}};
        RetentionVault v = Scenes.busy();
        for (int[] row : want) {
            for (int what = 0; what <= 7; what++) {
                int w = what;
                Checks.due("about(" + row[0] + ", " + what + ")", row[what + 1], () -> v.about(row[0], w));
            }
        }
        figuresDue(v, 1, want.length, Scenes.NEXT);
    }

    private static void fullVault() {
        figuresDue(Scenes.full(), 1, 40, Scenes.NEXT_IN_FULL);
    }

    private static void figuresDue(RetentionVault v, int... want) {
        for (int k = 0; k < want.length; k++) {
            int figure = k;
            Checks.due("figure(" + k + ")", want[k], () -> v.figure(figure));
        }
    }
}
