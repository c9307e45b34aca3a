/** Promise 19: best. */
public final class Promise19Best {
    public static void main(String[] args) {
        best("P0300l0", 1, 1, 2, 7);
        best("P0300l0", 2, -1, -1, -1);
        best("P0400l0", 2, 3, 12, 9);
        best("P0900l0", 1, 1, 2, 19);
        best("P0900l0", 2, 3, 12, 19);
        best("P1200l0", 1, 1, 2, 25);
        best("P1200l0", 2, 3, 12, 25);
        best("P0302h0wavb.", 1, 1, 4, 3);
        best("P0402h0wavb.", 2, 3, 12, 3);
        // c is light or heavy, or none is false: c has to be weighed; a in
        // the left pan has the least number.
        best("P0302h0wavb.wbva.", 1, 1, 4, 1);
        best("P0402h0wavb.wbva.", 2, 3, 12, 2);
        // c is heavy, or b light and the right pan false: b against a tells.
        best("P0302h0wavb.wavc.", 1, 2, 1, 1);
        // One case is left: nothing is left to tell.
        best("P0302h0wavb.wbva.wavc.", 1, 1, 2, 1);
        // With such arms no weighing tells anything.
        best("P0300l0a0120", 1, 1, 2, 21);
        byLeaves("P0604h0wavb.wbva.wcvd.", 1);
        byLeaves("P0604h0wavb.wbva.wcvd.", 2);
        byLeaves("P0605l2wabvcd.a1011", 1);
        byLeaves("P0605l2wabvcd.a1011", 2);
        byLeaves("P0602l1wavb.wbvc.a1110", 1);
        byLeaves("P0602l1wavb.wbvc.a1110", 2);
        Check.onlyAnswers("best(1, 0)", Check.used().best(1, 0), Check::used, y -> y.best(1, 0));
        Check.onlyAnswers("best(2, 2)", Check.used().best(2, 2), Check::used, y -> y.best(2, 2));
        int[][] bad = {{0, 0}, {3, 0}, {-1, 1}, {1, -1}, {1, 3}, {2, 3}, {0, 3}, {Integer.MAX_VALUE, 0}};
        for (int[] b : bad) {
            Check.refused("best(" + b[0] + ", " + b[1] + ")", IllegalArgumentException.class, Check::used,
                    y -> y.best(b[0], b[1]));
        }
        Check.refused("best(2, 3) of 3 coins", IllegalArgumentException.class, () -> Check.loaded("P0300l0"),
                y -> y.best(2, 3));
        Check.finish();
    }

    /** The best weighing, told by leaves(). */
    private static void byLeaves(String text, int j) {
        FalsePan x = Check.loaded(text);
        int end = 1 << x.about(0);
        int[] found = {0, 0, 1000};
        for (int a = 1; a < end; a++) {
            for (int b = 1; b < end; b++) {
                if (Integer.bitCount(a) != j || Integer.bitCount(b) != j || (a & b) != 0) {
                    continue;
                }
                int worst = 0;
                for (int o = 0; o < 3; o++) {
                    worst = Math.max(worst, x.leaves(a, b, o));
                }
                if (worst < found[2]) {
                    found = new int[] {a, b, worst};
                }
            }
        }
        best(text, j, found[0], found[1], found[2]);
    }

    private static void best(String text, int j, int left, int right, int worst) {
        int[] want = {left, right, worst};
        for (int i = 0; i < 3; i++) {
            int what = i;
            Check.onlyAnswers(text + ": best(" + j + ", " + i + ")", want[i], () -> Check.loaded(text),
                    y -> y.best(j, what));
        }
    }
}
