/** Promise 15: accusePan. */
public final class Promise15AccusePan {
    public static void main(String[] args) {
        for (int hidden = 0; hidden < 3; hidden++) {
            FalsePan x = Check.loaded("P0502h" + hidden);
            for (int pan = 0; pan < 3; pan++) {
                Check.due("accusePan(" + pan + "), with " + hidden, x.accusePan(pan), pan == hidden ? 1 : 0);
            }
            Check.due("rightly", x.about(7), 1);
            Check.due("wrongly", x.about(8), 2);
            Check.due("accusePan is an action", x.undo(), 2);
            Check.due("taken back", x.about(7) + x.about(8), 2);
        }
        Check.refused("accusePan(-1)", IllegalArgumentException.class, Check::used, y -> y.accusePan(-1));
        Check.refused("accusePan(3)", IllegalArgumentException.class, Check::used, y -> y.accusePan(3));
        Check.refused("accusePan(most)", IllegalArgumentException.class, Check::used,
                y -> y.accusePan(Integer.MAX_VALUE));
        Check.finish();
    }
}
