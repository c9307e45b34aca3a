/** Promise 11: hide. */
public final class Promise11Hide {
    public static void main(String[] args) {
        FalsePan x = Check.used();
        Check.due("hide(12, 74)", x.hide(12, 74), 75);
        int[] want = {12, 75, 75, 0, 10, 11, 0, 1, 1};
        for (int i = 0; i < want.length; i++) {
            Check.due("hidden: about(" + i + ")", x.about(i), want[i]);
        }
        Check.due("all are true: no coin is accused rightly", x.accuse(11, true), 0);
        Check.due("the right pan is false", x.accusePan(2), 1);
        Check.due("hide(3, 0)", x.hide(3, 0), 21);
        Check.due("a is light", x.accuse(0, false), 1);
        Check.due("hide(3, 20)", x.hide(3, 20), 21);
        Check.due("hide is an action", x.undo(), 12);
        Check.due("and taken back", x.about(7), 3);
        FalsePan back = Check.used();
        String before = Check.look(back);
        back.hide(4, 5);
        back.undo();
        Check.due("undo of hide", Check.look(back), before);
        FalsePan same = Check.used();
        same.hide(5, 22);
        Check.due("the same hidden again forgets the weighings", same.about(3), 0);
        for (int coins = 3; coins <= 12; coins++) {
            int n = coins;
            Check.due("the last case of " + n, new FalsePan().hide(n, 6 * n + 2), 6 * n + 3);
            Check.refused("hide(" + n + ", one above)", IndexOutOfBoundsException.class, Check::used,
                    y -> y.hide(n, 6 * n + 3));
        }
        Check.refused("hide(5, -1)", IndexOutOfBoundsException.class, Check::used, y -> y.hide(5, -1));
        Check.refused("hide(2, 0)", IllegalArgumentException.class, Check::used, y -> y.hide(2, 0));
        Check.refused("hide(13, 0)", IllegalArgumentException.class, Check::used, y -> y.hide(13, 0));
        Check.refused("hide(2, -1): the coins are asked first", IllegalArgumentException.class, Check::used,
                y -> y.hide(2, -1));
        Check.refused("hide(most, most)", IllegalArgumentException.class, Check::used,
                y -> y.hide(Integer.MAX_VALUE, Integer.MAX_VALUE));
        Check.finish();
    }
}
