/** Promise 22: bestArms. */
public final class Promise22BestArms {
    public static void main(String[] args) {
        numbers();
        byLeaves("P0300l0", 1, 2);
        byLeaves("P0900l0", 1, 2);
        byLeaves("P0900l0", 1, 12);
        byLeaves("P0502h1a0307wavb.", 3, 4);
        byLeaves("P1205l2wabvcd.wavbe.a0910", 7, 1016);
        byLeaves("P1200l0", 4095, 0);
        byLeaves("P1211h2", 2047, 2048);
        byLeaves("P0300t1", 0, 4);
        // 20 weighings, behind which another one cannot be done, but told of.
        byLeaves("P0300l0" + "wavb.".repeat(20), 3, 4);
        for (int[] pair : Sets.good(5)) {
            byLeaves("P0503l2wabvcd.", pair[0], pair[1]);
            Check.changesNothing(Sets.told("bestArms", pair, 5), y -> y.bestArms(pair[0], pair[1]));
        }
        for (int coins : new int[] {3, 12}) {
            Check.Maker maker = () -> Check.hidden(coins, 0);
            for (int[] pair : Sets.bad(coins)) {
                Check.refused(Sets.told("bestArms", pair, coins), Check.ARGUMENT, maker,
                        y -> y.bestArms(pair[0], pair[1]));
            }
        }
        for (int[] pair : Sets.bad(5)) {
            Check.refused(Sets.told("bestArms", pair, 5), Check.ARGUMENT, y -> y.bestArms(pair[0], pair[1]));
        }
        Check.finish();
    }

    private static void bestArms(String text, int left, int right, int want) {
        Check.onlyAnswers(text + ": bestArms(" + left + ", " + right + ")", want, () -> Check.loaded(text),
                y -> y.bestArms(left, right));
    }

    private static void numbers() {
        // A coin against none sinks in the 14 cases in which the right pan is
        // true; that it never does in the others needs an arm of 11.
        bestArms("P0300l0a1112", 1, 0, 111);
        // Only the longest arm makes up for two coins against none.
        bestArms("P0300l0a1112", 0, 6, 2001);
        bestArms("P0300l0a1112", 6, 0, 120);
        // Two coins against one: the right arm has to be twice as long.
        bestArms("P0300l0", 3, 4, 102);
        bestArms("P0300l0", 4, 3, 201);
        bestArms("P0300l0a1920", 1, 2, 101);
        // No arms tell anything: the least number. Of all coins against none, too.
        bestArms("P0302h0wavb.wbva.wavc.", 3, 4, 101);
        bestArms("P1200l0", 4095, 0, 101);
        bestArms("P1200l0", 0, 4095, 101);
    }

    /** The arms that leaves() tells, each tried on the table itself. */
    private static void byLeaves(String text, int left, int right) {
        int least = 1000;
        int found = 0;
        for (int a = 1; a <= 20; a++) {
            Pan x = Check.loaded(text);
            for (int b = 1; b <= 20; b++) {
                x.arms(a, b);
                int worst = 0;
                for (int o = 0; o < 3; o++) {
                    worst = Math.max(worst, x.leaves(left, right, o));
                }
                if (worst < least) {
                    least = worst;
                    found = 100 * a + b;
                }
            }
        }
        bestArms(text, left, right, found);
    }
}
