/** Promise 14: accuse. */
public final class Promise14Accuse {
    public static void main(String[] args) {
        FalsePan x = Check.loaded("P0502h1");
        Check.due("accuse(2, true)", x.accuse(2, true), 1);
        Check.due("accuse(2, false)", x.accuse(2, false), 0);
        Check.due("accuse(1, true)", x.accuse(1, true), 0);
        Check.due("accuse(2, true) again", x.accuse(2, true), 1);
        Check.due("rightly", x.about(7), 2);
        Check.due("wrongly", x.about(8), 2);
        Check.due("the cases stay", x.about(2), 33);
        Check.due("accuse is an action", x.undo(), 3);
        Check.due("rightly, taken back", x.about(7), 1);
        FalsePan light = Check.loaded("P0504l0");
        Check.due("accuse(4, false)", light.accuse(4, false), 1);
        Check.due("accuse(4, true)", light.accuse(4, true), 0);
        FalsePan none = Check.loaded("P0504t0");
        for (int c = 0; c < 5; c++) {
            Check.due("all are true: light " + c, none.accuse(c, false), 0);
            Check.due("all are true: heavy " + c, none.accuse(c, true), 0);
        }
        Check.due("wrongly", none.about(8), 10);
        Check.refused("accuse(-1, true)", IndexOutOfBoundsException.class, Check::used, y -> y.accuse(-1, true));
        Check.refused("accuse(5, false) of 5", IndexOutOfBoundsException.class, Check::used,
                y -> y.accuse(5, false));
        Check.refused("accuse(least, true)", IndexOutOfBoundsException.class, Check::used,
                y -> y.accuse(Integer.MIN_VALUE, true));
        // The case of which all coins are true has the number that a light coin 5 would have.
        Check.refused("accuse(5, false), all true", IndexOutOfBoundsException.class, () -> Check.loaded("P0500t0"),
                y -> y.accuse(5, false));
        Check.finish();
    }
}
