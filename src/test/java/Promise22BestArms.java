/** Promise 22: bestArms. */
public final class Promise22BestArms {
    public static void main(String[] args) {
        bestArms("P0300l0", 1, 2);
        bestArms("P0900l0", 1, 2);
        bestArms("P0900l0wabvcd.", 1, 12);
        bestArms("P0502h1a0307wavb.", 3, 4);
        bestArms("P1205l2wabvcd.wavbe.a0910", 7, 1016);
        // A coin against none sinks in the 14 cases in which the right pan is
        // true; that it never does in the others needs an arm of 11.
        Check.onlyAnswers("bestArms(1, 0)", 111, () -> Check.loaded("P0300l0a1112"), y -> y.bestArms(1, 0));
        // Only the longest left arm makes up for two coins.
        Check.onlyAnswers("bestArms(0, 6)", 2001, () -> Check.loaded("P0300l0a1112"), y -> y.bestArms(0, 6));
        Check.onlyAnswers("bestArms(6, 0)", 120, () -> Check.loaded("P0300l0a1112"), y -> y.bestArms(6, 0));
        // Two coins against one: the right arm has to be twice as long.
        Check.onlyAnswers("bestArms(3, 4)", 102, () -> Check.loaded("P0300l0"), y -> y.bestArms(3, 4));
        Check.onlyAnswers("bestArms(4, 3)", 201, () -> Check.loaded("P0300l0"), y -> y.bestArms(4, 3));
        Check.onlyAnswers("bestArms(1, 2)", 101, () -> Check.loaded("P0300l0a1920"), y -> y.bestArms(1, 2));
        Check.onlyAnswers("bestArms, one case left", 101, () -> Check.loaded("P0302h0wavb.wbva.wavc."),
                y -> y.bestArms(3, 4));
        int[][] bad = {{0, 0}, {1, 1}, {3, 2}, {32, 1}, {1, 32}, {-1, 0}, {0, -1}, {Integer.MIN_VALUE, 1}};
        for (int[] b : bad) {
            Check.refused("bestArms(" + b[0] + ", " + b[1] + ")", IllegalArgumentException.class, Check::used,
                    y -> y.bestArms(b[0], b[1]));
        }
        Check.finish();
    }

    /** The arms that leaves() tells, each tried on the table itself. */
    private static void bestArms(String text, int left, int right) {
        int least = 1000;
        int found = 0;
        for (int a = 1; a <= 20; a++) {
            FalsePan x = Check.loaded(text);
            for (int b = 1; b <= 20; b++) {
                x.arms(a, b);
                int worst = 0;
                for (int o = 0; o < 3; o++) {
                    worst = Math.max(worst, x.leaves(left, right, o));
                }
                if (worst < least) {
                    least = worst;
                    found = 100 * a + b;
                }
            }
        }
        Check.onlyAnswers(text + ": bestArms(" + left + ", " + right + ")", found, () -> Check.loaded(text),
                y -> y.bestArms(left, right));
    }
}
