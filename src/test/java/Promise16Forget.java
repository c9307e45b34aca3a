/** Promise 16: forget. */
public final class Promise16Forget {
    public static void main(String[] args) {
        FalsePan x = Check.loaded("P0502h0wavb.a1110wcvd.a0101");
        String two = Check.look(x);
        FalsePan one = Check.loaded("P0502h0wavb.a0101");
        Check.due("forget", x.forget(), 1);
        Check.due("one is left", Check.look(x), Check.look(one));
        Check.due("forget", x.forget(), 0);
        Check.due("none is left", Check.look(x), Check.look(Check.loaded("P0502h0a0101")));
        Check.due("forget of none", Check.answer(x, y -> y.forget()), "throws IllegalStateException");
        Check.due("forget is an action", x.undo(), 1);
        Check.due("undo", Check.look(x), Check.look(one));
        Check.due("undo", x.undo(), 0);
        Check.due("both are back", Check.look(x), two);
        FalsePan accused = Check.used();
        accused.forget();
        Check.due("what was accused stays", accused.about(7) * 10 + accused.about(8), 11);
        FalsePan full = Check.loaded("P0500l0" + "wavb.".repeat(20));
        for (int i = 19; i >= 0; i--) {
            Check.due("forget", full.forget(), i);
        }
        Check.due("all cases are left again", full.about(2), 33);
        Check.refused("forget of none", IllegalStateException.class,
                () -> {
                    FalsePan y = Check.used();
                    y.hide(4, 4);
                    return y;
                }, y -> y.forget());
        Check.finish();
    }
}
