/** Promise 6: about. */
public final class Promise06About {
    public static void main(String[] args) {
        FalsePan x = Check.loaded("P0502h0");
        numbers("5 coins", x, 5, 33, 33, 0, 10, 10, 0, 0, 0);
        // a against b, level: none of them is false, nor a pan; or one of
        // them makes up for a pan, which two cases do for each pan.
        x.weigh(1, 2);
        numbers("level", x, 5, 33, 11, 1, 10, 10, 0, 0, 0);
        // Exchanged, they would not make up for it.
        x.weigh(2, 1);
        numbers("level both ways", x, 5, 33, 7, 2, 10, 10, 0, 0, 0);
        x.weigh(2, 1);
        numbers("level again", x, 5, 33, 7, 3, 10, 10, 1, 0, 0);
        x.accuse(2, true);
        x.accuse(2, false);
        x.accusePan(1);
        x.accusePan(0);
        x.accusePan(2);
        numbers("accused", x, 5, 33, 7, 3, 10, 10, 1, 2, 3);
        x.arms(20, 1);
        x.weigh(4, 8);
        numbers("arms that tell nothing", x, 5, 33, 7, 4, 20, 1, 2, 2, 3);
        x.arms(10, 10);
        x.weigh(4, 8);
        numbers("the false one sinks", x, 5, 33, 2, 5, 10, 10, 2, 2, 3);
        x.forget();
        x.forget();
        numbers("forgotten", x, 5, 33, 7, 3, 10, 10, 1, 2, 3);
        FalsePan first = new FalsePan();
        first.arms(1, 20);
        first.weigh(1, 2);
        Check.due("a first weighing that tells nothing", first.about(6), 1);
        for (int i = 0; i <= 8; i++) {
            int what = i;
            long want = Check.used().about(i);
            Check.onlyAnswers("about(" + i + ")", want, Check::used, y -> y.about(what));
        }
        Check.refused("about(-1)", IllegalArgumentException.class, Check::used, y -> y.about(-1));
        Check.refused("about(9)", IllegalArgumentException.class, Check::used, y -> y.about(9));
        Check.refused("about(most)", IllegalArgumentException.class, Check::used,
                y -> y.about(Integer.MAX_VALUE));
        Check.finish();
    }

    private static void numbers(String when, FalsePan x, int... want) {
        for (int i = 0; i < want.length; i++) {
            Check.due(when + ": about(" + i + ")", x.about(i), want[i]);
        }
    }
}
