/** Promise 13: weigh. */
public final class Promise13Weigh {
    public static void main(String[] args) {
        outcomes();
        Pan x = Check.loaded("P0500l0");
        Check.due("weigh", x.weigh(1, 2), 2);
        Check.due("weighings", x.about(3), 1);
        Check.due("weigh is an action", x.undo(), 0);
        Check.due("weighings, taken back", x.about(3), 0);
        Check.due("cases, taken back", x.about(2), 33);
        for (int coins : new int[] {3, 4, 9, 11, 12}) {
            sets(coins);
        }
        for (int[] pair : Sets.bad(5)) {
            Check.refused(Sets.told("weigh", pair, 5), Check.ARGUMENT, y -> y.weigh(pair[0], pair[1]));
        }
        twenty();
        Check.finish();
    }

    private static void outcome(String text, int left, int right, int want) {
        Check.due(text + ": weigh(" + left + ", " + right + ")", Check.loaded(text).weigh(left, right), want);
    }

    private static void outcomes() {
        outcome("P0500l0", 1, 2, 2);
        outcome("P0500h0", 1, 2, 1);
        outcome("P0501l0", 1, 2, 1);
        outcome("P0501h0", 1, 2, 2);
        outcome("P0502h0", 1, 2, 0);
        outcome("P0500t0", 1, 2, 0);
        outcome("P0500t1", 1, 2, 1);
        outcome("P0500t2", 1, 2, 2);
        outcome("P0500l1", 1, 2, 0);
        outcome("P0500h2", 1, 2, 0);
        outcome("P0500h1", 1, 2, 1);
        outcome("P0500t1", 0, 16, 2);
        outcome("P0500t2", 16, 0, 1);
        outcome("P0500t0", 31, 0, 1);
        outcome("P0500t0", 0, 31, 2);
        outcome("P0500t0", 3, 4, 1);
        outcome("P0500h0a1011", 1, 2, 0);
        outcome("P0500t0a1011", 1, 2, 2);
        outcome("P0500h0a1110", 1, 2, 1);
        outcome("P0500l0a1009", 2, 1, 1);
        outcome("P0500l0a0910", 2, 1, 0);
        outcome("P0500t0a1020", 3, 4, 0);
        outcome("P0500t1a1020", 3, 4, 1);
        outcome("P0500t2a1020", 3, 4, 2);
        outcome("P0500t0a1002", 1, 30, 1);
        outcome("P1211h0", 2048, 1, 1);
        outcome("P1211l0", 2048, 1, 2);
        outcome("P1200t0", 63, 4032, 0);
        outcome("P1211l0", 63, 4032, 1);
    }

    private static void sets(int coins) {
        for (int[] pair : Sets.good(coins)) {
            Pan x = Check.hidden(coins, 6 * coins);
            String told = Sets.told("weigh", pair, coins);
            int outcome = x.weigh(pair[0], pair[1]);
            Check.due(told + ": left", x.weighing(0, 0), pair[0]);
            Check.due(told + ": right", x.weighing(0, 1), pair[1]);
            Check.due(told + ": outcome", x.weighing(0, 2), outcome);
            Check.due(told + ": cases left", x.weighing(0, 5), x.about(2));
        }
        Check.Maker maker = () -> Check.hidden(coins, 0);
        for (int[] pair : Sets.bad(coins)) {
            Check.refused(Sets.told("weigh", pair, coins), Check.ARGUMENT, maker, y -> y.weigh(pair[0], pair[1]));
        }
    }

    private static void twenty() {
        Pan x = Check.hidden(3, 0);
        for (int i = 1; i <= 20; i++) {
            Check.due("the weighing " + i, x.weigh(1, 2), 2);
            Check.due("weighings behind it", x.about(3), i);
        }
        Check.refuses("the weighing 21", Check.STATE, x, y -> y.weigh(1, 2));
        Check.due("weighings behind it", x.about(3), 20);
        x.forget();
        Check.due("behind a forget there is room", x.weigh(4, 2), 0);
        Check.due("the twentieth is another one", x.weighing(19, 0), 4);
        x.undo();
        Check.due("behind an undo there is room", x.weigh(2, 4), 0);
        Check.refuses("but for no more", Check.STATE, x, y -> y.weigh(2, 4));
        for (int[] pair : Sets.good(5)) {
            Check.refused(Sets.told("a twenty-first weigh", pair, 5), Check.STATE, Check::full,
                    y -> y.weigh(pair[0], pair[1]));
        }
    }
}
