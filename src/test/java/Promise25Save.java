/** Promise 25: save. */
public final class Promise25Save {
    public static void main(String[] args) {
        casesLeft();
        bothSlots();
        notAnAction();
        for (int slot : new int[] {-1, 2, 3, 12, Integer.MIN_VALUE, Integer.MAX_VALUE}) {
            Check.refused("save(" + slot + ")", Check.INDEX, y -> y.save(slot));
            Check.refused("save(" + slot + ") of a new object", Check.INDEX, Pan::new, y -> y.save(slot));
        }
        Check.finish();
    }

    /** "Returns the cases that are left": from one to 75. */
    private static void casesLeft() {
        for (int slot = 0; slot <= 1; slot++) {
            Check.due("new: save(" + slot + ")", new Pan().save(slot), 57);
            Check.due("12 coins: save(" + slot + ")", Check.hidden(12, 0).save(slot), 75);
            Check.due("3 coins: save(" + slot + ")", Check.hidden(3, 0).save(slot), 21);
            Check.due("one case: save(" + slot + ")", Check.loaded("P0302h0wavb.wbva.wavc.").save(slot), 1);
            Check.due("used: save(" + slot + ")", Check.used().save(slot), Check.used().about(2));
            Check.due("full: save(" + slot + ")", Check.full().save(slot), Check.full().about(2));
        }
    }

    private static void bothSlots() {
        Pan x = Check.used();
        String then = Check.state(x);
        Check.due("save(1)", x.save(1), x.about(2));
        Check.due("save leaves the state", Check.state(x), then);
        x.weigh(1, 4);
        x.hide(7, 7);
        Check.due("save(0)", x.save(0), 45);
        x.restore(1);
        Check.due("what was saved in 1", Check.state(x), then);
        x.restore(0);
        Check.due("what was saved in 0", x.about(0), 7);
        x.arms(2, 3);
        x.save(0);
        x.arms(4, 5);
        x.restore(0);
        Check.due("what was saved last in 0", x.about(4), 2);
        x.restore(1);
        Check.due("what is still saved in 1", Check.state(x), then);
        // The same state in both, and then another one in one of them.
        Pan y = new Pan();
        y.save(0);
        y.save(1);
        y.hide(4, 4);
        y.save(1);
        Check.due("both, and 1 again: restore(0)", y.restore(0), 57);
        Check.due("both, and 1 again: restore(1)", y.restore(1), 27);
        // A full table.
        Pan full = Check.full();
        full.save(1);
        full.hide(3, 3);
        full.restore(1);
        Check.due("20 weighings, saved and restored", Check.state(full), Check.state(Check.full()));
    }

    private static void notAnAction() {
        Pan x = Check.used();
        x.save(0);
        x.save(1);
        Check.due("save is no action", x.undo(), 6);
        x.undo();
        x.undo();
        Check.due("undo leaves the save slots", x.restore(1), Check.used().about(2));
        Check.due("save leaves the text", x.clearText(), 16);
        Pan full = Check.full();
        full.save(0);
        full.save(1);
        for (int i = 13; i >= 0; i--) {
            Check.due("save leaves all 14 states", full.undo(), i);
        }
    }
}
