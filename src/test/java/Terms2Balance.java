/** Terms, "The balance". */
public final class Terms2Balance {
    public static void main(String[] args) {
        arms();
        sets();
        outcomes();
        remembered();
        left("P0302h0", new int[][] {{10, 10, 1, 2}});
        left("P0300t1", new int[][] {{10, 11, 1, 2}, {11, 10, 4, 1}});
        left("P0401l2", new int[][] {{10, 10, 3, 12}, {10, 9, 1, 4}, {1, 10, 2, 0}});
        left("P0504h0", new int[][] {{20, 10, 1, 6}, {10, 20, 24, 1}, {10, 10, 16, 8}});
        left("P1211l1", new int[][] {{10, 10, 63, 4032}, {12, 11, 2048, 1}, {1, 20, 2, 0}});
        left("P1200t2", new int[][] {{11, 10, 1, 2}, {10, 11, 4, 8}, {20, 20, 15, 240}, {10, 10, 2, 1}});
        Check.finish();
    }

    /** "The left arm has a length of 1 to 20, at first 10, the right one likewise." */
    private static void arms() {
        Check.due("the left arm at first", new Pan().about(4), 10);
        Check.due("the right arm at first", new Pan().about(5), 10);
        for (int length = 1; length <= 20; length++) {
            Pan x = new Pan();
            x.arms(length, 21 - length);
            Check.due("the left arm", x.about(4), length);
            Check.due("the right arm", x.about(5), 21 - length);
        }
        for (int length : new int[] {0, 21, -1}) {
            Check.refused("a left arm of " + length, Check.ARGUMENT, y -> y.arms(length, 10));
            Check.refused("a right arm of " + length, Check.ARGUMENT, y -> y.arms(10, length));
        }
    }

    /** "Numbers whose bit k is 1 if the coin k is in it", "no coin in common", "not both empty". */
    private static void sets() {
        for (int c = 0; c < 12; c++) {
            int other = (c + 5) % 12;
            Pan x = Check.hidden(12, 3 * (2 * c + 1));
            Check.due("heavy, and in the left pan: " + c, x.weigh(1 << c, 1 << other), 1);
            Check.due("heavy, and in the right pan: " + c, x.weigh(1 << other, 1 << c), 2);
            Check.due("heavy, and beside: " + c, x.weigh(1 << other, 1 << (c + 1) % 12), 0);
        }
        for (int coins = 3; coins <= 12; coins++) {
            int n = coins;
            for (int[] pair : Sets.good(n)) {
                Pan x = Check.hidden(n, 6 * n);
                int more = Integer.bitCount(pair[0]) - Integer.bitCount(pair[1]);
                Check.due(Sets.told("weigh", pair, n), x.weigh(pair[0], pair[1]), more > 0 ? 1 : more < 0 ? 2 : 0);
            }
            for (int[] pair : Sets.bad(n)) {
                Check.refuses(Sets.told("weigh", pair, n), Check.ARGUMENT, Check.hidden(n, 0),
                        y -> y.weigh(pair[0], pair[1]));
            }
        }
    }

    /** "0 level, 1 the left pan sinks, 2 the right one does": just the same, and the least that is more or less. */
    private static void outcomes() {
        Check.due("10 * 10 against 10 * 10", Check.loaded("P0500t0").weigh(1, 2), 0);
        Check.due("20 * 10 against 19 * 10", Check.loaded("P0500t0a2019").weigh(1, 2), 1);
        Check.due("19 * 10 against 20 * 10", Check.loaded("P0500t0a1920").weigh(1, 2), 2);
        Check.due("1 * 11 against 1 * 10", Check.loaded("P0500h0a0101").weigh(1, 2), 1);
        Check.due("1 * 10 against 1 * 11", Check.loaded("P0501h0a0101").weigh(1, 2), 2);
        Check.due("1 * 61 against 1 * 60", Check.loaded("P1200t1a0101").weigh(63, 4032), 1);
        Check.due("1 * 60 against 1 * 61", Check.loaded("P1200t2a0101").weigh(63, 4032), 2);
        Check.due("20 * 11 against 20 * 10", Check.loaded("P0500h0a2020").weigh(1, 2), 1);
        Check.due("10 * 19 against 19 * 10", Check.loaded("P0501l0a1019").weigh(3, 4), 0);
        Check.due("1 * 1 against 20 * 10", Check.loaded("P0500t1a0120").weigh(0, 1), 2);
        Check.due("20 * 120 against nothing", Check.loaded("P1200t0a2001").weigh(4095, 0), 1);
        Check.due("nothing against 1 * 9", Check.loaded("P0300l0a2001").weigh(0, 1), 2);
    }

    /** "Weighings are remembered in their order, with the arms as they were then, at most 20." */
    private static void remembered() {
        Pan x = Check.hidden(12, 3 * 7);
        for (int i = 0; i < 20; i++) {
            Check.due("weighings ahead of the next", x.about(3), i);
            x.arms(i + 1, 20 - i);
            x.weigh(1 << i % 12, 1 << (i + 1) % 12);
        }
        Check.due("20 weighings", x.about(3), 20);
        x.arms(7, 7);
        Check.refuses("the twenty-first", Check.STATE, x, y -> y.weigh(1, 2));
        Check.due("weighings behind it", x.about(3), 20);
        for (int i = 0; i < 20; i++) {
            String told = "of 20, the weighing " + i + ": ";
            Check.due(told + "left", x.weighing(i, 0), 1 << i % 12);
            Check.due(told + "right", x.weighing(i, 1), 1 << (i + 1) % 12);
            Check.due(told + "outcome", x.weighing(i, 2), i < 10 ? 2 : 1);
            Check.due(told + "the left arm then", x.weighing(i, 3), i + 1);
            Check.due(told + "the right arm then", x.weighing(i, 4), 20 - i);
        }
        Check.refused("the twenty-first on a full table", Check.STATE, Check::full, y -> y.weigh(1, 2));
    }

    /** "A case is left if each of the weighings would have had its outcome in that case": they are done in it. */
    private static void left(String text, int[][] weighings) {
        Pan x = Check.loaded(text);
        int coins = x.about(0);
        int hidden = Check.hiddenCase(x);
        int[] outcomes = new int[weighings.length];
        for (int n = 0; n <= weighings.length; n++) {
            int cases = 0;
            for (int k = 0; k < 6 * coins + 3; k++) {
                boolean is = true;
                Pan other = Check.hidden(coins, k);
                for (int i = 0; i < n; i++) {
                    is &= weigh(other, weighings[i]) == outcomes[i];
                }
                Check.due(text + ", " + n + " weighings: isLeft(" + k + ")", x.isLeft(k), is ? 1 : 0);
                cases += is ? 1 : 0;
            }
            Check.due(text + ", " + n + " weighings: cases left", x.about(2), cases);
            Check.due(text + ", " + n + " weighings: the hidden case is left", x.isLeft(hidden), 1);
            if (n < weighings.length) {
                outcomes[n] = weigh(x, weighings[n]);
            }
        }
    }

    private static int weigh(Pan x, int[] weighing) {
        x.arms(weighing[0], weighing[1]);
        return x.weigh(weighing[2], weighing[3]);
    }
}
