/** Promise 25: save. */
public final class Promise25Save {
    public static void main(String[] args) {
        FalsePan x = Check.used();
        String then = Check.look(x);
        Check.due("save(1)", x.save(1), x.about(2));
        Check.due("save changes no state", Check.look(x), then);
        x.weigh(1, 4);
        x.hide(7, 7);
        Check.due("save(0)", x.save(0), 45);
        Check.due("save is no action", x.undo(), 8);
        x.restore(1);
        Check.due("what was saved in 1", Check.look(x), then);
        x.restore(0);
        Check.due("what was saved in 0", x.about(0), 7);
        x.arms(2, 3);
        x.save(0);
        x.arms(4, 5);
        x.restore(0);
        Check.due("what was saved last in 0", x.about(4), 2);
        Check.due("new: save(0)", new FalsePan().save(0), 57);
        Check.refused("save(-1)", IndexOutOfBoundsException.class, Check::used, y -> y.save(-1));
        Check.refused("save(2)", IndexOutOfBoundsException.class, Check::used, y -> y.save(2));
        Check.refused("save(least)", IndexOutOfBoundsException.class, Check::used,
                y -> y.save(Integer.MIN_VALUE));
        Check.finish();
    }
}
