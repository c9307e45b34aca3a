/** Promise 21: needs. */
public final class Promise21Needs {
    public static void main(String[] args) {
        // Just a power of 3, and the next number: 1, 2; 3, 4; 9, 10; 27, 28.
        needs("P0302h0wavb.wbva.wavc.", 1, 0);
        needs("P0302h0wavb.wavc.", 2, 1);
        needs("P0402h0wavb.wbva.wcvd.", 2, 1);
        needs("P0302h0wavb.wbva.", 3, 1);
        needs("P0300h0a1110wcva.", 4, 2);
        needs("P0402h0wavb.wbva.", 5, 2);
        needs("P0302h0wavb.", 7, 2);
        needs("P0501l2a1110wavc.", 8, 2);
        needs("P0402h0wavb.", 9, 2);
        needs("P0300l0a2010wcvab.", 10, 3);
        needs("P0900l0wabcvdef.", 19, 3);
        needs("P0300l0", 21, 3);
        needs("P0501h2wadvbce.a1110wdevac.a1011wbevad.", 25, 3);
        needs("P0400l0", 27, 3);
        needs("P0501h2wabdve.a1011wabvcd.a0910wavd.", 28, 4);
        needs("P0500l0", 33, 4);
        needs("P0900l0", 57, 4);
        needs("P1200l0", 75, 4);
        needs("P0302h0" + "wavb.".repeat(20), 7, 2);
        Check.changesNothing("needs", y -> y.needs());
        for (int coins = 3; coins <= 12; coins++) {
            leastPower(coins);
        }
        Check.finish();
    }

    private static void needs(String text, int cases, int want) {
        Check.due(text + ": cases left", Check.loaded(text).about(2), cases);
        Check.onlyAnswers(text + ": needs", want, () -> Check.loaded(text), y -> y.needs());
    }

    private static void leastPower(int coins) {
        Pan x = Check.hidden(coins, 4 * coins);
        for (int c = 0; c < coins; c++) {
            x.weigh(1 << c, 1 << (c + 1) % coins);
            int n = x.needs();
            Check.that("needs is enough", Math.pow(3, n) >= x.about(2));
            Check.that("needs is least", n == 0 || Math.pow(3, n - 1) < x.about(2));
        }
    }
}
