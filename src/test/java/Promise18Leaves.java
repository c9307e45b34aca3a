/** Promise 18: leaves. */
public final class Promise18Leaves {
    public static void main(String[] args) {
        Check.Maker new3 = () -> Check.loaded("P0300l0");
        // a against b: level if the pans are true and c is false or none, or
        // if the coin makes up for the pan.
        Check.onlyAnswers("leaves(1, 2, 0)", 3 + 4, new3, y -> y.leaves(1, 2, 0));
        Check.onlyAnswers("leaves(1, 2, 1)", 2 + 5, new3, y -> y.leaves(1, 2, 1));
        Check.onlyAnswers("leaves(1, 2, 2)", 2 + 5, new3, y -> y.leaves(1, 2, 2));
        Check.onlyAnswers("leaves(7, 0, 1)", 21, new3, y -> y.leaves(7, 0, 1));
        Check.onlyAnswers("leaves(7, 0, 0)", 0, new3, y -> y.leaves(7, 0, 0));
        Check.onlyAnswers("leaves(0, 7, 2)", 21, new3, y -> y.leaves(0, 7, 2));
        Check.Maker armed = () -> Check.loaded("P0300l0a1110");
        Check.onlyAnswers("leaves(1, 2, 0), 11 to 10", 4, armed, y -> y.leaves(1, 2, 0));
        Check.Maker known = () -> Check.loaded("P0302h0wavb.");
        Check.onlyAnswers("leaves(4, 1, 0) of what is left", 1, known, y -> y.leaves(4, 1, 0));
        Check.onlyAnswers("leaves(4, 1, 1) of what is left", 3, known, y -> y.leaves(4, 1, 1));
        Check.onlyAnswers("leaves(4, 1, 2) of what is left", 3, known, y -> y.leaves(4, 1, 2));
        Check.Maker full = () -> Check.loaded("P0302h0" + "wavb.".repeat(20));
        Check.onlyAnswers("leaves(4, 1, 1) with 20 weighings", 3, full, y -> y.leaves(4, 1, 1));
        Check.refused("leaves(1, 2, -1)", IndexOutOfBoundsException.class, Check::used, y -> y.leaves(1, 2, -1));
        Check.refused("leaves(1, 2, 3)", IndexOutOfBoundsException.class, Check::used, y -> y.leaves(1, 2, 3));
        Check.refused("leaves(0, 0, 3): the outcome is asked first", IndexOutOfBoundsException.class, Check::used,
                y -> y.leaves(0, 0, 3));
        int[][] bad = {{0, 0}, {1, 1}, {3, 2}, {32, 1}, {1, 32}, {-1, 0}, {0, -1}, {Integer.MIN_VALUE, 1}};
        for (int[] b : bad) {
            Check.refused("leaves(" + b[0] + ", " + b[1] + ", 0)", IllegalArgumentException.class, Check::used,
                    y -> y.leaves(b[0], b[1], 0));
        }
        Check.finish();
    }
}
