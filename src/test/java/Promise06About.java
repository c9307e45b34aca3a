/** Promise 6: about. */
public final class Promise06About {
    public static void main(String[] args) {
        inARun();
        leastAndMost();
        tellNothing();
        accused();
        for (int i = 0; i <= 8; i++) {
            int what = i;
            Check.changesNothing("about(" + i + ")", y -> y.about(what));
        }
        Check.refused("about(-1)", Check.ARGUMENT, y -> y.about(-1));
        Check.refused("about(9)", Check.ARGUMENT, y -> y.about(9));
        Check.refused("about(least)", Check.ARGUMENT, y -> y.about(Integer.MIN_VALUE));
        Check.refused("about(most)", Check.ARGUMENT, y -> y.about(Integer.MAX_VALUE));
        Check.finish();
    }

    private static void numbers(String when, Pan x, int... want) {
        for (int i = 0; i < want.length; i++) {
            Check.due(when + ": about(" + i + ")", x.about(i), want[i]);
        }
    }

    private static void inARun() {
        Pan x = Check.loaded("P0502h0");
        numbers("5 coins", x, 5, 33, 33, 0, 10, 10, 0, 0, 0);
        // a against b, level: none of them is false, nor a pan; or one of
        // them makes up for a pan, which two cases do for each pan.
        x.weigh(1, 2);
        numbers("level", x, 5, 33, 11, 1, 10, 10, 0, 0, 0);
        // Exchanged, they would not make up for it.
        x.weigh(2, 1);
        numbers("level both ways", x, 5, 33, 7, 2, 10, 10, 0, 0, 0);
        x.weigh(2, 1);
        numbers("level again", x, 5, 33, 7, 3, 10, 10, 1, 0, 0);
        x.accuse(2, true);
        x.accuse(2, false);
        x.accusePan(1);
        x.accusePan(0);
        x.accusePan(2);
        numbers("accused", x, 5, 33, 7, 3, 10, 10, 1, 2, 3);
        x.arms(20, 1);
        x.weigh(4, 8);
        numbers("arms that tell nothing", x, 5, 33, 7, 4, 20, 1, 2, 2, 3);
        x.arms(10, 10);
        x.weigh(4, 8);
        numbers("the false one sinks", x, 5, 33, 2, 5, 10, 10, 2, 2, 3);
        x.forget();
        x.forget();
        numbers("forgotten", x, 5, 33, 7, 3, 10, 10, 1, 2, 3);
    }

    private static void leastAndMost() {
        numbers("3 coins", Check.hidden(3, 0), 3, 21, 21, 0, 10, 10, 0, 0, 0);
        numbers("12 coins", Check.hidden(12, 0), 12, 75, 75, 0, 10, 10, 0, 0, 0);
        for (int coins = 3; coins <= 12; coins++) {
            Check.due("cases of " + coins, Check.hidden(coins, 0).about(1), 3 * (2 * coins + 1));
        }
        numbers("one case is left", Check.loaded("P0302h0wavb.wbva.wavc."), 3, 21, 1, 3, 10, 10, 0, 0, 0);
        numbers("least arms", Check.loaded("P0300l0a0101"), 3, 21, 21, 0, 1, 1, 0, 0, 0);
        numbers("most arms", Check.loaded("P0300l0a2020"), 3, 21, 21, 0, 20, 20, 0, 0, 0);
        numbers("20 weighings", Check.loaded("P0302h0" + "wavb.".repeat(20)), 3, 21, 7, 20, 10, 10, 19, 0, 0);
    }

    /** "The weighings behind which as many cases were left as ahead of them." */
    private static void tellNothing() {
        Check.due("of no weighing", new Pan().about(6), 0);
        Check.due("a first weighing that tells something", Check.loaded("P0300l0wavb.").about(6), 0);
        Check.due("a first weighing that tells nothing", Check.loaded("P0300l0a0120wavb.").about(6), 1);
        Check.due("all of 20", Check.loaded("P0300l0a0120" + "wav.".repeat(20)).about(6), 19);
        Check.due("all of 20", Check.loaded("P0300t0" + "wabv.".repeat(20)).about(6), 20);
        // Nothing, something, nothing, something, nothing.
        Pan x = Check.loaded("P0302h0wabcv.wavb.wavb.wbva.wabv.");
        Check.due("three of five", x.about(6), 3);
        Check.due("cases left", x.about(2), 3);
        x.forget();
        Check.due("the last one is forgotten", x.about(6), 2);
        x.forget();
        Check.due("one that told something is forgotten", x.about(6), 2);
        x.undo();
        x.undo();
        Check.due("behind undo", x.about(6), 3);
        x.hide(3, 0);
        Check.due("all are forgotten", x.about(6), 0);
    }

    /** "How often something was accused rightly so far", "how often wrongly". */
    private static void accused() {
        Pan x = Check.hidden(12, 3 * 23 + 2);
        for (int i = 1; i <= 90; i++) {
            x.accuse(11, true);
            x.accusePan(2);
            x.accuse(11, false);
            Check.due("accused rightly so far", x.about(7), 2 * i);
            Check.due("accused wrongly so far", x.about(8), i);
        }
        x.undo();
        Check.due("wrongly, taken back", x.about(8), 89);
        x.undo();
        Check.due("rightly, taken back", x.about(7), 179);
        x.hide(3, 0);
        x.arms(1, 1);
        x.weigh(1, 2);
        x.forget();
        Check.due("rightly, behind other actions", x.about(7), 179);
        Check.due("wrongly, behind other actions", x.about(8), 89);
    }
}
