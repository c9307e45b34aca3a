/** Promise 10: weighing. */
public final class Promise10Weighing {
    public static void main(String[] args) {
        FalsePan x = Check.loaded("P0302h0wavb.a1209wcvab.");
        numbers("the first", x, 0, 1, 2, 0, 10, 10, 7);
        // 12 * 11 against 9 * 20; in no case is it otherwise.
        numbers("the second", x, 1, 4, 3, 2, 12, 9, 7);
        x.arms(1, 1);
        numbers("arms moved since", x, 1, 4, 3, 2, 12, 9, 7);
        x.weigh(4, 0);
        numbers("the third", x, 2, 4, 0, 1, 1, 1, 7);
        x.weigh(4, 1);
        // c is heavy; or the left pan is false, and a light or b heavy.
        numbers("the fourth", x, 3, 4, 1, 1, 1, 1, 3);
        x.forget();
        numbers("the third, behind a forget", x, 2, 4, 0, 1, 1, 1, 7);
        Check.due("the fourth is forgotten", Check.answer(x, y -> y.weighing(3, 0)),
                "throws IndexOutOfBoundsException");
        FalsePan full = Check.loaded("P1200l0" + "wlv.".repeat(20));
        Check.due("the twentieth", full.weighing(19, 0), 2048);
        Check.due("the twenty-first", Check.answer(full, y -> y.weighing(20, 0)),
                "throws IndexOutOfBoundsException");
        for (int i = 0; i < 6; i++) {
            int what = i;
            Check.onlyAnswers("weighing(1, " + i + ")", Check.used().weighing(1, i), Check::used,
                    y -> y.weighing(1, what));
        }
        Check.refused("weighing(-1, 0)", IndexOutOfBoundsException.class, Check::used, y -> y.weighing(-1, 0));
        Check.refused("weighing(3, 0) of 3", IndexOutOfBoundsException.class, Check::used, y -> y.weighing(3, 0));
        Check.refused("weighing(0, -1)", IllegalArgumentException.class, Check::used, y -> y.weighing(0, -1));
        Check.refused("weighing(0, 6)", IllegalArgumentException.class, Check::used, y -> y.weighing(0, 6));
        Check.refused("weighing(3, 6): the weighing is asked first", IndexOutOfBoundsException.class, Check::used,
                y -> y.weighing(3, 6));
        Check.refused("weighing(0, 0) of none", IndexOutOfBoundsException.class, FalsePan::new,
                y -> y.weighing(0, 0));
        Check.finish();
    }

    private static void numbers(String when, FalsePan x, int i, int... want) {
        for (int what = 0; what < want.length; what++) {
            Check.due(when + ": weighing(" + i + ", " + what + ")", x.weighing(i, what), want[what]);
        }
    }
}
