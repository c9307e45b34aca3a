/** Promise 7: coin. */
public final class Promise07Coin {
    public static void main(String[] args) {
        FalsePan x = Check.loaded("P0502h0");
        coins("nothing weighed", x, 7, 7, 7, 7, 7);
        x.weigh(1, 2);
        coins("a and b are level, or a pan is false", x, 7, 7, 7, 7, 7);
        x.weigh(2, 1);
        coins("a and b are level both ways", x, 4, 4, 7, 7, 7);
        x.weigh(4, 8);
        coins("c sinks against d", x, 4, 4, 6, 5, 4);
        x.weigh(4, 1);
        coins("c sinks against a", x, 4, 4, 2, 4, 4);
        FalsePan light = Check.loaded("P0304l0wavb.wbva.wavc.");
        coins("all are true, and known", light, 4, 4, 4);
        FalsePan one = Check.loaded("P0301l0wavc.wcva.wavb.");
        coins("one is light, and known", one, 4, 1, 4);
        FalsePan pan = Check.loaded("P0300t1wavb.wavc.wbvc.");
        // The left pan is false, and a is heavy, or c light, or no coin false.
        coins("the left pan is false, and perhaps a coin", pan, 6, 4, 5);
        Check.due("the last of 12", Check.loaded("P1200l0").coin(11), 7);
        Check.onlyAnswers("coin(4)", Check.used().coin(4), Check::used, y -> y.coin(4));
        Check.refused("coin(-1)", IndexOutOfBoundsException.class, Check::used, y -> y.coin(-1));
        Check.refused("coin(5) of 5", IndexOutOfBoundsException.class, Check::used, y -> y.coin(5));
        Check.refused("coin(64)", IndexOutOfBoundsException.class, Check::used, y -> y.coin(64));
        Check.refused("coin(least)", IndexOutOfBoundsException.class, Check::used,
                y -> y.coin(Integer.MIN_VALUE));
        Check.finish();
    }

    private static void coins(String when, FalsePan x, int... want) {
        for (int c = 0; c < want.length; c++) {
            Check.due(when + ": coin(" + c + ")", x.coin(c), want[c]);
        }
    }
}
