/** Promise 26: restore. */
public final class Promise26Restore {
    public static void main(String[] args) {
        FalsePan x = Check.used();
        String then = Check.look(x);
        x.save(1);
        x.hide(12, 70);
        x.weigh(7, 56);
        x.arms(1, 2);
        x.accusePan(0);
        int cases = Check.used().about(2);
        Check.due("restore(1)", x.restore(1), cases);
        Check.due("the state that was saved", Check.look(x), then);
        Check.due("restore forgets all remembered states", Check.answer(x, y -> y.undo()),
                "throws IllegalStateException");
        x.accuse(3, false);
        x.accuse(3, true);
        Check.due("the hidden case is back, too", x.about(7), 2);
        Check.due("the slot keeps it", x.restore(1), cases);
        Check.due("the slot keeps it", Check.look(x), then);
        x.forget();
        x.weigh(1, 16);
        Check.due("changes behind it do not reach the slot", x.restore(1), cases);
        Check.due("changes behind it do not reach the slot", Check.look(x), then);
        Check.due("the text stays", x.clearText(), 7);
        Check.due("the other slot", x.restore(0), 33);
        Check.due("the other slot", x.about(3) * 100 + x.about(7), 0);
        Check.write(x, "P0400h0");
        x.load();
        Check.due("behind load: 0", Check.answer(x, y -> y.restore(0)), "throws IllegalStateException");
        Check.due("behind load: 1", Check.answer(x, y -> y.restore(1)), "throws IllegalStateException");
        x.save(0);
        Check.due("saved behind load", x.restore(0), 27);
        Check.refused("restore(1), empty", IllegalStateException.class, Check::used, y -> y.restore(1));
        Check.refused("restore(0), empty", IllegalStateException.class, FalsePan::new, y -> y.restore(0));
        Check.refused("restore(-1)", IndexOutOfBoundsException.class, Check::used, y -> y.restore(-1));
        Check.refused("restore(2)", IndexOutOfBoundsException.class, Check::used, y -> y.restore(2));
        Check.refused("restore(most)", IndexOutOfBoundsException.class, Check::used,
                y -> y.restore(Integer.MAX_VALUE));
        Check.finish();
    }
}
