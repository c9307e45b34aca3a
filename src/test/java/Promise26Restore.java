/** Promise 26: restore. */
public final class Promise26Restore {
    public static void main(String[] args) {
        replaces();
        forgets();
        nothingSaved();
        for (int slot : new int[] {-1, 2, 3, 12, Integer.MIN_VALUE, Integer.MAX_VALUE}) {
            Check.refused("restore(" + slot + ")", Check.INDEX, y -> y.restore(slot));
            // In none anything has been saved, but these do not even exist.
            Check.refused("restore(" + slot + ") of a new object", Check.INDEX, Pan::new, y -> y.restore(slot));
        }
        Check.finish();
    }

    /** "Replaces the state by the one in a save slot. The save slot keeps it." */
    private static void replaces() {
        Pan x = Check.used();
        String then = Check.state(x);
        x.save(1);
        x.hide(12, 70);
        x.weigh(7, 56);
        x.arms(1, 2);
        x.accusePan(0);
        int cases = Check.used().about(2);
        Check.due("restore(1)", x.restore(1), cases);
        Check.due("the state that was saved", Check.state(x), then);
        Check.due("the slot keeps it", x.restore(1), cases);
        Check.due("the slot keeps it", Check.state(x), then);
        x.forget();
        x.weigh(1, 16);
        Check.due("changes behind it do not reach the slot", x.restore(1), cases);
        Check.due("changes behind it do not reach the slot", Check.state(x), then);
        Check.due("the text stays", x.clearText(), 16);
        Check.due("the other slot", x.restore(0), 33);
        Check.due("the other slot", x.about(3) * 100 + x.about(7), 0);
        Check.due("the text stays", x.clearText(), 0);
        Pan one = Check.loaded("P0302h0wavb.wbva.wavc.");
        one.save(0);
        one.hide(12, 0);
        Check.due("one case is left: restore(0)", one.restore(0), 1);
        Pan most = Check.hidden(12, 0);
        most.save(0);
        most.hide(3, 0);
        Check.due("75 cases are left: restore(0)", most.restore(0), 75);
        most.save(1);
        Check.due("what was restored, saved elsewhere", most.restore(1), 75);
    }

    /** "And forgets all remembered states": 7 of them, or 14, or none. */
    private static void forgets() {
        for (int slot = 0; slot <= 1; slot++) {
            int number = slot;
            Check.Maker full = () -> {
                Pan x = Check.full();
                x.restore(number);
                return x;
            };
            Check.refused("undo behind restore(" + slot + ")", Check.STATE, full, y -> y.undo());
            Check.Maker none = () -> {
                Pan x = new Pan();
                x.save(number);
                x.restore(number);
                return x;
            };
            Check.refused("undo behind restore(" + slot + ") of a new object", Check.STATE, none, y -> y.undo());
        }
        Pan x = Check.used();
        Check.due("restore(0)", x.restore(0), 33);
        Check.refuses("undo behind restore", Check.STATE, x, y -> y.undo());
        for (int i = 1; i <= 15; i++) {
            x.arms(i, i);
        }
        for (int i = 13; i >= 0; i--) {
            Check.due("14 states are remembered behind restore", x.undo(), i);
        }
        Check.refuses("but not more", Check.STATE, x, y -> y.undo());
    }

    /** "If nothing has been saved in it since the last load." */
    private static void nothingSaved() {
        Check.refused("restore(0) of a new object", Check.STATE, Pan::new, y -> y.restore(0));
        Check.refused("restore(1) of a new object", Check.STATE, Pan::new, y -> y.restore(1));
        Check.refused("restore(1), saved in 0 alone", Check.STATE, Check::used, y -> y.restore(1));
        Check.Maker other = () -> {
            Pan x = new Pan();
            x.arms(2, 2);
            x.save(1);
            return x;
        };
        Check.refused("restore(0), saved in 1 alone", Check.STATE, other, y -> y.restore(0));
        Check.Maker loaded = () -> {
            Pan x = Check.full();
            x.load();
            return x;
        };
        Check.refused("restore(0), emptied by load", Check.STATE, loaded, y -> y.restore(0));
        Check.refused("restore(1), emptied by load", Check.STATE, loaded, y -> y.restore(1));
        Pan x = loaded.make();
        x.save(0);
        Check.due("restore(0), saved behind load", x.restore(0), 75);
        Check.refuses("restore(1), emptied by load", Check.STATE, x, y -> y.restore(1));
        // A load that throws empties nothing.
        Pan y = Check.full();
        y.clearText();
        Check.refuses("load of no table", Check.STATE, y, z -> z.load());
        Check.due("restore(1) behind it", y.restore(1), 25);
        Check.due("restore(0) behind it", y.restore(0), 33);
    }
}
