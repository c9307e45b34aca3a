/** Promise 21: needs. */
public final class Promise21Needs {
    public static void main(String[] args) {
        needs("P1200l0", 75, 4);
        needs("P0900l0", 57, 4);
        needs("P0400l0", 27, 3);
        needs("P0500l0", 33, 4);
        needs("P0300l0", 21, 3);
        needs("P0402h0wavb.", 9, 2);
        needs("P0402h0wavb.wbva.", 5, 2);
        needs("P0302h0wavb.", 7, 2);
        needs("P0302h0wavb.wbva.", 3, 1);
        needs("P0402h0wavb.wbva.wcvd.", 2, 1);
        needs("P0302h0wavb.wavc.", 2, 1);
        needs("P0302h0wavb.wbva.wavc.", 1, 0);
        needs("P0900l0wabcvdef.", 19, 3);
        Check.onlyAnswers("needs", Check.used().needs(), Check::used, y -> y.needs());
        int found = 0;
        for (int coins = 3; coins <= 12; coins++) {
            FalsePan x = new FalsePan();
            x.hide(coins, 4 * coins);
            for (int c = 0; c < coins; c++) {
                x.weigh(1 << c, 1 << (c + 1) % coins);
                int n = x.needs();
                Check.that("needs is enough", Math.pow(3, n) >= x.about(2));
                Check.that("needs is least", n == 0 || Math.pow(3, n - 1) < x.about(2));
                found |= 1 << n;
            }
        }
        Check.that("several numbers came", Integer.bitCount(found) >= 3);
        Check.finish();
    }

    private static void needs(String text, int cases, int want) {
        FalsePan x = Check.loaded(text);
        Check.due(text + ": cases left", x.about(2), cases);
        Check.due(text + ": needs", x.needs(), want);
    }
}
