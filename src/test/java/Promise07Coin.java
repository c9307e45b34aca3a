/** Promise 7: coin. */
public final class Promise07Coin {
    public static void main(String[] args) {
        Pan x = Check.loaded("P0502h0");
        coins("nothing weighed", x, 7, 7, 7, 7, 7);
        x.weigh(1, 2);
        coins("a and b are level, or a pan is false", x, 7, 7, 7, 7, 7);
        x.weigh(2, 1);
        coins("a and b are level both ways", x, 4, 4, 7, 7, 7);
        x.weigh(4, 8);
        coins("c sinks against d", x, 4, 4, 6, 5, 4);
        x.weigh(4, 1);
        coins("c sinks against a", x, 4, 4, 2, 4, 4);
        x.forget();
        coins("the last one forgotten", x, 4, 4, 6, 5, 4);
        Pan light = Check.loaded("P0304l0wavb.wbva.wavc.");
        coins("all are true, and known", light, 4, 4, 4);
        Pan one = Check.loaded("P0301l0wavc.wcva.wavb.");
        coins("one is light, and known", one, 4, 1, 4);
        Pan pan = Check.loaded("P0300t1wavb.wavc.wbvc.");
        // The left pan is false, and a is heavy, or c light, or no coin false.
        coins("the left pan is false, and perhaps a coin", pan, 6, 4, 5);
        coins("all 12 are true, and known", Check.loaded("P1200t0wabcdefvghijkl.wghijklvabcdef."),
                4, 4, 4, 4, 4, 4, 4, 4, 4, 4, 4, 4);
        coins("all 12 are true, or the last is not", Check.loaded("P1211h0wabcdevfghij.wfghijvabcde.wkva."),
                4, 4, 4, 4, 4, 4, 4, 4, 4, 4, 4, 7);
        coins("the last of 12 is heavy", Check.loaded("P1211h0wlva.wavl.wlvb."),
                4, 4, 4, 4, 4, 4, 4, 4, 4, 4, 4, 2);
        firstAndLast();
        Check.finish();
    }

    private static void coins(String when, Pan x, int... want) {
        for (int c = 0; c < want.length; c++) {
            Check.due(when + ": coin(" + c + ")", x.coin(c), want[c]);
        }
    }

    private static void firstAndLast() {
        for (int coins = 3; coins <= 12; coins++) {
            int n = coins;
            Check.Maker maker = () -> Check.hidden(n, 0);
            Check.onlyAnswers("coin(0) of " + n, 7, maker, y -> y.coin(0));
            Check.onlyAnswers("coin(" + (n - 1) + ") of " + n, 7, maker, y -> y.coin(n - 1));
            Check.refused("coin(" + n + ") of " + n, Check.INDEX, maker, y -> y.coin(n));
            Check.refused("coin(12) of " + n, Check.INDEX, maker, y -> y.coin(12));
        }
        for (int c = 0; c < 5; c++) {
            int coin = c;
            Check.changesNothing("coin(" + c + ")", y -> y.coin(coin));
        }
        Check.refused("coin(-1)", Check.INDEX, y -> y.coin(-1));
        Check.refused("coin(5) of 5", Check.INDEX, y -> y.coin(5));
        // A shift by 32 more would be one by 0.
        Check.refused("coin(32)", Check.INDEX, y -> y.coin(32));
        Check.refused("coin(64)", Check.INDEX, y -> y.coin(64));
        Check.refused("coin(-32)", Check.INDEX, y -> y.coin(-32));
        Check.refused("coin(least)", Check.INDEX, y -> y.coin(Integer.MIN_VALUE));
        Check.refused("coin(most)", Check.INDEX, y -> y.coin(Integer.MAX_VALUE));
    }
}
