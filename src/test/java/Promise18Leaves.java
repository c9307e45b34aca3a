/** Promise 18: leaves. */
public final class Promise18Leaves {
    public static void main(String[] args) {
        numbers();
        for (int coins : new int[] {3, 5, 12}) {
            sets(coins);
        }
        for (int outcome = 0; outcome < 3; outcome++) {
            int o = outcome;
            Check.changesNothing("leaves(1, 30, " + o + ")", y -> y.leaves(1, 30, o));
            for (int[] pair : Sets.bad(5)) {
                Check.refused(Sets.told("leaves", pair, 5), Check.ARGUMENT, y -> y.leaves(pair[0], pair[1], o));
            }
        }
        for (int o : new int[] {-1, 3, Integer.MIN_VALUE, Integer.MAX_VALUE}) {
            Check.refused("leaves(1, 2, " + o + ")", Check.INDEX, y -> y.leaves(1, 2, o));
            // The outcome is asked first.
            Check.refused("leaves(0, 0, " + o + ")", Check.INDEX, y -> y.leaves(0, 0, o));
            Check.refused("leaves(1, 1, " + o + ")", Check.INDEX, y -> y.leaves(1, 1, o));
            Check.refused("leaves(-1, 32, " + o + ")", Check.INDEX, y -> y.leaves(-1, 32, o));
        }
        Check.finish();
    }

    private static void numbers() {
        Check.Maker new3 = () -> Check.loaded("P0300l0");
        // a against b: level if the pans are true and c is false or none, or
        // if the coin makes up for the pan.
        Check.onlyAnswers("leaves(1, 2, 0)", 3 + 4, new3, y -> y.leaves(1, 2, 0));
        Check.onlyAnswers("leaves(1, 2, 1)", 2 + 5, new3, y -> y.leaves(1, 2, 1));
        Check.onlyAnswers("leaves(1, 2, 2)", 2 + 5, new3, y -> y.leaves(1, 2, 2));
        Check.onlyAnswers("leaves(7, 0, 1)", 21, new3, y -> y.leaves(7, 0, 1));
        Check.onlyAnswers("leaves(7, 0, 0)", 0, new3, y -> y.leaves(7, 0, 0));
        Check.onlyAnswers("leaves(0, 7, 2)", 21, new3, y -> y.leaves(0, 7, 2));
        Check.Maker armed = () -> Check.loaded("P0300l0a1110");
        Check.onlyAnswers("leaves(1, 2, 0), 11 to 10", 4, armed, y -> y.leaves(1, 2, 0));
        Check.Maker known = () -> Check.loaded("P0302h0wavb.");
        Check.onlyAnswers("leaves(4, 1, 0) of what is left", 1, known, y -> y.leaves(4, 1, 0));
        Check.onlyAnswers("leaves(4, 1, 1) of what is left", 3, known, y -> y.leaves(4, 1, 1));
        Check.onlyAnswers("leaves(4, 1, 2) of what is left", 3, known, y -> y.leaves(4, 1, 2));
        Check.Maker full = () -> Check.loaded("P0302h0" + "wavb.".repeat(20));
        Check.onlyAnswers("leaves(4, 1, 1) with 20 weighings", 3, full, y -> y.leaves(4, 1, 1));
        Check.Maker most = () -> Check.hidden(12, 0);
        Check.onlyAnswers("leaves(4095, 0, 1)", 75, most, y -> y.leaves(4095, 0, 1));
        Check.onlyAnswers("leaves(4095, 0, 2)", 0, most, y -> y.leaves(4095, 0, 2));
        // 6 against 6: level if nothing is false, or if a coin makes up for
        // the pan, which each of the 12 does for each pan.
        Check.onlyAnswers("leaves(63, 4032, 0)", 1 + 12 + 12, most, y -> y.leaves(63, 4032, 0));
        Check.onlyAnswers("leaves(63, 4032, 1)", 25, most, y -> y.leaves(63, 4032, 1));
        Check.Maker one = () -> Check.loaded("P0302h0wavb.wbva.wavc.");
        Check.onlyAnswers("leaves(4, 1, 1) of one case", 1, one, y -> y.leaves(4, 1, 1));
        Check.onlyAnswers("leaves(4, 1, 0) of one case", 0, one, y -> y.leaves(4, 1, 0));
    }

    /** As many as weigh() leaves, each outcome of each pair of sets, in a case that has it. */
    private static void sets(int coins) {
        Check.Maker maker = () -> Check.hidden(coins, 0);
        for (int[] pair : Sets.bad(coins)) {
            Check.refused(Sets.told("leaves", pair, coins), Check.ARGUMENT, maker,
                    y -> y.leaves(pair[0], pair[1], 0));
        }
        for (int[] pair : Sets.good(coins)) {
            String told = Sets.told("leaves", pair, coins);
            int[] leaves = new int[3];
            for (int o = 0; o < 3; o++) {
                leaves[o] = maker.make().leaves(pair[0], pair[1], o);
            }
            Check.due(told + ", all outcomes", leaves[0] + leaves[1] + leaves[2], 6 * coins + 3);
            int[] found = new int[3];
            for (int k = 0; k < 6 * coins + 3; k++) {
                Pan x = Check.hidden(coins, k);
                int outcome = x.weigh(pair[0], pair[1]);
                found[outcome]++;
                Check.due(told + ", weighed in the case " + k, x.about(2), leaves[outcome]);
            }
            for (int o = 0; o < 3; o++) {
                Check.due(told + ", the outcome " + o, leaves[o], found[o]);
            }
        }
    }
}
