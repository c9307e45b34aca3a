/** Promise 10: weighing. */
public final class Promise10Weighing {
    public static void main(String[] args) {
        inARun();
        noneAndTwenty();
        for (int i = 0; i < 3; i++) {
            for (int k = 0; k < 6; k++) {
                int number = i;
                int what = k;
                Check.changesNothing("weighing(" + i + ", " + k + ")", y -> y.weighing(number, what));
            }
        }
        int[] bad = {-1, 6, Integer.MIN_VALUE, Integer.MAX_VALUE};
        for (int what : bad) {
            Check.refused("weighing(0, " + what + ")", Check.ARGUMENT, y -> y.weighing(0, what));
            Check.refused("weighing(2, " + what + ")", Check.ARGUMENT, y -> y.weighing(2, what));
        }
        Check.refused("weighing(19, 6)", Check.ARGUMENT, Check::full, y -> y.weighing(19, 6));
        for (int k = -1; k <= 6; k++) {
            int what = k;
            Check.refused("weighing(-1, " + k + ")", Check.INDEX, y -> y.weighing(-1, what));
            Check.refused("weighing(3, " + k + ") of 3", Check.INDEX, Check::used, y -> y.weighing(3, what));
            Check.refused("weighing(20, " + k + ")", Check.INDEX, y -> y.weighing(20, what));
            Check.refused("weighing(0, " + k + ") of none", Check.INDEX, Pan::new, y -> y.weighing(0, what));
        }
        Check.refused("weighing(least, 0)", Check.INDEX, y -> y.weighing(Integer.MIN_VALUE, 0));
        Check.refused("weighing(most, 0)", Check.INDEX, y -> y.weighing(Integer.MAX_VALUE, 0));
        // 6 times that number is 6 behind a wrap-around.
        Check.refused("weighing(715827883, 0)", Check.INDEX, y -> y.weighing(715827883, 0));
        Check.refused("weighing(-715827882, 0)", Check.INDEX, y -> y.weighing(-715827882, 0));
        Check.finish();
    }

    private static void inARun() {
        Pan x = Check.loaded("P0302h0wavb.a1209wcvab.");
        numbers("the first", x, 0, 1, 2, 0, 10, 10, 7);
        // 12 * 11 against 9 * 20; in no case is it otherwise.
        numbers("the second", x, 1, 4, 3, 2, 12, 9, 7);
        x.arms(1, 1);
        numbers("arms moved since", x, 1, 4, 3, 2, 12, 9, 7);
        x.weigh(4, 0);
        numbers("the third", x, 2, 4, 0, 1, 1, 1, 7);
        x.weigh(4, 1);
        // c is heavy; or the left pan is false, and a light or b heavy.
        numbers("the fourth", x, 3, 4, 1, 1, 1, 1, 3);
        numbers("the first, behind more", x, 0, 1, 2, 0, 10, 10, 7);
        x.forget();
        numbers("the third, behind a forget", x, 2, 4, 0, 1, 1, 1, 7);
        Check.refuses("the fourth is forgotten", Check.INDEX, x, y -> y.weighing(3, 0));
        x.weigh(0, 4);
        numbers("another fourth", x, 3, 0, 4, 2, 1, 1, 7);
        x.undo();
        x.undo();
        numbers("the fourth is back", x, 3, 4, 1, 1, 1, 1, 3);
        x.save(0);
        x.hide(3, 0);
        Check.refuses("hide forgets them", Check.INDEX, x, y -> y.weighing(0, 0));
        x.restore(0);
        numbers("the fourth is restored", x, 3, 4, 1, 1, 1, 1, 3);
    }

    private static void numbers(String when, Pan x, int i, int... want) {
        for (int what = 0; what < want.length; what++) {
            Check.due(when + ": weighing(" + i + ", " + what + ")", x.weighing(i, what), want[what]);
        }
    }

    /** One weighing more at a time, from none to 20. */
    private static void noneAndTwenty() {
        Pan x = Check.hidden(12, 3 * 23);
        for (int n = 0; n <= 20; n++) {
            Check.refuses(n + " weighings: one behind the last", Check.INDEX, x, y -> y.weighing(y.about(3), 0));
            if (n > 0) {
                numbers(n + " weighings: the last", x, n - 1, 2048, 1, 1, 10, 10, x.about(2));
                numbers(n + " weighings: the first", x, 0, 2048, 1, 1, 10, 10, x.about(2));
            }
            if (n < 20) {
                x.weigh(2048, 1);
            }
        }
        Pan full = Check.loaded("P1200l0" + "wlv.".repeat(20));
        numbers("the twentieth", full, 19, 2048, 0, 1, 10, 10, 75);
    }
}
