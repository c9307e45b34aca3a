/** Promise 13: weigh. */
public final class Promise13Weigh {
    public static void main(String[] args) {
        outcomes();
        FalsePan x = Check.loaded("P0500l0");
        Check.due("weigh", x.weigh(1, 2), 2);
        Check.due("weighings", x.about(3), 1);
        Check.due("weigh is an action", x.undo(), 0);
        Check.due("weighings, taken back", x.about(3), 0);
        Check.due("cases, taken back", x.about(2), 33);
        sets("weigh", 5);
        sets("weigh", 3);
        sets("weigh", 12);
        Check.Maker full = () -> Check.loaded("P0300l0" + "wavb.".repeat(20));
        Check.due("20 weighings", full.make().about(3), 20);
        Check.refused("the 21st", IllegalStateException.class, full, y -> y.weigh(1, 2));
        Check.refused("the 21st, of bad sets", IllegalArgumentException.class, full, y -> y.weigh(1, 1));
        FalsePan again = full.make();
        again.forget();
        Check.due("behind a forget there is room", again.weigh(1, 2), 2);
        Check.finish();
    }

    private static void outcome(String text, int left, int right, int want) {
        Check.due(text + ": weigh(" + left + ", " + right + ")", Check.loaded(text).weigh(left, right), want);
    }

    private static void outcomes() {
        outcome("P0500l0", 1, 2, 2);
        outcome("P0500h0", 1, 2, 1);
        outcome("P0501l0", 1, 2, 1);
        outcome("P0501h0", 1, 2, 2);
        outcome("P0502h0", 1, 2, 0);
        outcome("P0500t0", 1, 2, 0);
        outcome("P0500t1", 1, 2, 1);
        outcome("P0500t2", 1, 2, 2);
        outcome("P0500l1", 1, 2, 0);
        outcome("P0500h2", 1, 2, 0);
        outcome("P0500h1", 1, 2, 1);
        outcome("P0500t1", 0, 16, 2);
        outcome("P0500t2", 16, 0, 1);
        outcome("P0500t0", 31, 0, 1);
        outcome("P0500t0", 0, 31, 2);
        outcome("P0500t0", 3, 4, 1);
        outcome("P0500h0a1011", 1, 2, 0);
        outcome("P0500t0a1011", 1, 2, 2);
        outcome("P0500h0a1110", 1, 2, 1);
        outcome("P0500l0a1009", 2, 1, 1);
        outcome("P0500l0a0910", 2, 1, 0);
        outcome("P0500t0a1020", 3, 4, 0);
        outcome("P0500t1a1020", 3, 4, 1);
        outcome("P0500t2a1020", 3, 4, 2);
        outcome("P0500t0a1002", 1, 30, 1);
        outcome("P1211h0", 2048, 1, 1);
        outcome("P1211l0", 2048, 1, 2);
        outcome("P1200t0", 63, 4032, 0);
        outcome("P1211l0", 63, 4032, 1);
    }

    private static void sets(String what, int coins) {
        Check.Maker maker = () -> {
            FalsePan x = Check.used();
            x.hide(coins, 0);
            return x;
        };
        int[][] bad = {{0, 0}, {1, 1}, {3, 2}, {3, 6}, {1 << coins, 1}, {1, 1 << coins}, {-1, 0}, {0, -1},
            {1, -2}, {Integer.MIN_VALUE, 1}, {1, Integer.MIN_VALUE}, {Integer.MAX_VALUE, 0}, {1 << 30, 0}};
        for (int[] b : bad) {
            Check.refused(what + "(" + b[0] + ", " + b[1] + ") of " + coins, IllegalArgumentException.class, maker,
                    y -> y.weigh(b[0], b[1]));
        }
    }
}
