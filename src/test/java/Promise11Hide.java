/** Promise 11: hide. */
public final class Promise11Hide {
    public static void main(String[] args) {
        leastAndMost();
        whatStays();
        isAnAction();
        for (int c : new int[] {2, 13, 0, 1, -1, Integer.MIN_VALUE, Integer.MAX_VALUE}) {
            Check.refused("hide(" + c + ", 0)", Check.ARGUMENT, y -> y.hide(c, 0));
            // The coins are asked first.
            Check.refused("hide(" + c + ", -1)", Check.ARGUMENT, y -> y.hide(c, -1));
            Check.refused("hide(" + c + ", 75)", Check.ARGUMENT, y -> y.hide(c, 75));
        }
        Check.refused("hide(most, most)", Check.ARGUMENT, y -> y.hide(Integer.MAX_VALUE, Integer.MAX_VALUE));
        Check.refused("hide(least, least)", Check.ARGUMENT, y -> y.hide(Integer.MIN_VALUE, Integer.MIN_VALUE));
        Check.finish();
    }

    /** The least and the greatest case of the fewest and the most coins, and of all between. */
    private static void leastAndMost() {
        for (int coins = 3; coins <= 12; coins++) {
            int n = coins;
            int cases = 6 * n + 3;
            for (int k : new int[] {0, 1, 2, 3, cases - 4, cases - 3, cases - 2, cases - 1}) {
                Pan x = Check.used();
                String told = "hide(" + n + ", " + k + ")";
                Check.due(told, x.hide(n, k), cases);
                Check.due(told + ": coins", x.about(0), n);
                Check.due(told + ": cases left", x.about(2), cases);
                Check.due(told + ": the hidden case", Check.hiddenCase(x), k);
            }
            for (int k : new int[] {-1, cases, Integer.MIN_VALUE, Integer.MAX_VALUE}) {
                Check.refused("hide(" + n + ", " + k + ")", Check.INDEX, y -> y.hide(n, k));
            }
        }
        // The case has to be one of so many coins, not of those that lie there.
        Check.refused("hide(3, 21) where 12 lie", Check.INDEX, () -> Check.hidden(12, 0), y -> y.hide(3, 21));
        Check.due("hide(12, 74) where 3 lie", Check.hidden(3, 0).hide(12, 74), 75);
    }

    /** "The weighings are forgotten (arms, and what was accused so far, stay)." */
    private static void whatStays() {
        Pan x = Check.used();
        Check.due("hide(12, 74)", x.hide(12, 74), 75);
        int[] want = {12, 75, 75, 0, 10, 11, 0, 1, 1};
        for (int i = 0; i < want.length; i++) {
            Check.due("hidden: about(" + i + ")", x.about(i), want[i]);
        }
        Check.due("hidden: pans", x.pans(), 7);
        for (int c = 0; c < 12; c++) {
            Check.due("hidden: coin(" + c + ")", x.coin(c), 7);
        }
        Check.refuses("hidden: weighing(0, 0)", Check.INDEX, x, y -> y.weighing(0, 0));
        Check.refuses("hidden: forget", Check.STATE, x, y -> y.forget());
        Check.due("hidden: the text", x.errorPosition(), Check.NONE);
        Pan full = Check.full();
        full.hide(5, 8);
        Check.due("behind 20 weighings, hidden again: weighings", full.about(3), 0);
        Check.due("behind 20 weighings, hidden again: cases left", full.about(2), 33);
        Check.due("there is room for weighings", full.weigh(1, 2), 2);
        Check.due("the save slot stays", full.restore(0), 33);
    }

    private static void isAnAction() {
        Pan x = Check.used();
        String before = Check.state(x);
        x.hide(4, 5);
        Check.due("undo of hide", x.undo(), 7);
        Check.due("the state behind it", Check.state(x), before);
        x.hide(5, 22);
        Check.due("the same hidden again forgets the weighings", x.about(3), 0);
        Check.due("undo of it", x.undo(), 7);
        Check.due("the state behind it", Check.state(x), before);
    }
}
