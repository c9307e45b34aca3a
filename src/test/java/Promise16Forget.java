/** Promise 16: forget. */
public final class Promise16Forget {
    public static void main(String[] args) {
        oneByOne();
        fromTwenty();
        Pan accused = Check.used();
        accused.forget();
        Check.due("what was accused stays", accused.about(7) * 10 + accused.about(8), 11);
        Check.due("the left arm stays", accused.about(4), 10);
        Check.due("the right arm stays", accused.about(5), 11);
        Check.refused("forget of none, new", Check.STATE, Pan::new, y -> y.forget());
        Check.refused("forget of none, behind hide", Check.STATE,
                () -> {
                    Pan y = Check.used();
                    y.hide(4, 4);
                    return y;
                }, y -> y.forget());
        Check.refused("forget of none, behind forget", Check.STATE,
                () -> {
                    Pan y = Check.loaded("P0300l0wav.");
                    y.forget();
                    return y;
                }, y -> y.forget());
        Check.refused("forget of none, behind undo", Check.STATE,
                () -> {
                    Pan y = Check.loaded("P0300l0");
                    y.weigh(1, 2);
                    y.undo();
                    return y;
                }, y -> y.forget());
        Check.finish();
    }

    private static void oneByOne() {
        Pan x = Check.loaded("P0502h0wavb.a1110wcvd.a0101");
        String two = Check.state(x);
        Pan one = Check.loaded("P0502h0wavb.a0101");
        Check.due("forget", x.forget(), 1);
        Check.due("one is left", Check.state(x), Check.state(one));
        Check.due("forget", x.forget(), 0);
        Check.due("none is left", Check.state(x), Check.state(Check.loaded("P0502h0a0101")));
        Check.refuses("forget of none", Check.STATE, x, y -> y.forget());
        Check.due("forget is an action", x.undo(), 1);
        Check.due("undo", Check.state(x), Check.state(one));
        Check.due("undo", x.undo(), 0);
        Check.due("both are back", Check.state(x), two);
    }

    /** One weighing less at a time, each of which told something, until all cases are left again. */
    private static void fromTwenty() {
        Pan full = Check.hidden(12, 3 * 24 + 1);
        int[] left = new int[20];
        for (int i = 0; i < 20; i++) {
            left[i] = full.about(2);
            full.weigh(1 << i % 12, 1 << (i + 7) % 12);
        }
        for (int i = 19; i >= 0; i--) {
            Check.due("forget", full.forget(), i);
            Check.due("weighings left", full.about(3), i);
            Check.due("cases left", full.about(2), left[i]);
        }
        Check.due("all cases are left again", full.about(2), 75);
        Check.due("the last 14 of them are taken back", undoAll(full), 14);
        Check.due("weighings behind it", full.about(3), 14);
    }

    private static int undoAll(Pan x) {
        int taken = 0;
        while (!Check.answer(x, y -> y.undo()).startsWith("throws")) {
            taken++;
        }
        return taken;
    }
}
