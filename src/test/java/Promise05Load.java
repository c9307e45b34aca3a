/** Promise 5: load. */
public final class Promise05Load {
    public static void main(String[] args) {
        hiddenCase("P0900l0", 9, 0);
        hiddenCase("P0902h1", 9, 3 * 5 + 1);
        hiddenCase("P1211h2", 12, 3 * 23 + 2);
        hiddenCase("P0302t1", 3, 3 * 6 + 1);
        hiddenCase("P0311t0", 3, 3 * 6);
        hiddenCase("P0303l2", 3, 3 * 6 + 2);
        hiddenCase("P0303h0", 3, 3 * 6);
        hiddenCase("P0302h0", 3, 3 * 5);
        commands();
        asNew();
        Check.refused("load of no table", IllegalStateException.class,
                () -> {
                    FalsePan x = Check.used();
                    x.append('w');
                    return x;
                }, y -> y.load());
        Check.refused("load of the empty text", IllegalStateException.class, FalsePan::new, y -> y.load());
        Check.finish();
    }

    /** Accuses all there is, to find what is hidden. */
    private static void hiddenCase(String text, int coins, int k) {
        FalsePan x = Check.withText(text);
        Check.due("load of " + text, x.load(), 0);
        Check.due(text + ": coins", x.about(0), coins);
        Check.due(text + ": cases left", x.about(2), 3 * (2 * coins + 1));
        for (int c = 0; c < coins; c++) {
            Check.due(text + ": light " + c, x.accuse(c, false), k / 3 == 2 * c ? 1 : 0);
            Check.due(text + ": heavy " + c, x.accuse(c, true), k / 3 == 2 * c + 1 ? 1 : 0);
        }
        for (int p = 0; p < 3; p++) {
            Check.due(text + ": pan " + p, x.accusePan(p), k % 3 == p ? 1 : 0);
        }
    }

    private static void commands() {
        // wv. is empty, f is no coin, a lies in both: three are left out.
        FalsePan x = Check.withText("P0500h0wv.wavb.wfv.wava.a0120wcdvabe.");
        Check.due("load leaves out", x.load(), 3);
        Check.due("weighings", x.about(3), 2);
        Check.due("the first: left", x.weighing(0, 0), 1);
        Check.due("the first: right", x.weighing(0, 1), 2);
        Check.due("the first: outcome", x.weighing(0, 2), 1);
        Check.due("the first: arms", x.weighing(0, 3) * 100 + x.weighing(0, 4), 1010);
        Check.due("the second: left", x.weighing(1, 0), 12);
        Check.due("the second: right", x.weighing(1, 1), 19);
        Check.due("the second: outcome", x.weighing(1, 2), 2);
        Check.due("the second: arms", x.weighing(1, 3) * 100 + x.weighing(1, 4), 120);
        Check.due("the arms behind it", x.about(4) * 100 + x.about(5), 120);
        FalsePan many = Check.withText("P0300l0" + "wav.".repeat(26));
        Check.due("load of 26 weighings leaves out", many.load(), 6);
        Check.due("load of 26 weighings", many.about(3), 20);
        Check.due("load again", many.load(), 6);
        FalsePan all = Check.withText("P1200l0wabcdefvghijkl.");
        Check.due("load of all letters", all.load(), 0);
        Check.due("all letters: left", all.weighing(0, 0), 63);
        Check.due("all letters: right", all.weighing(0, 1), 4032);
        FalsePan right = Check.withText("P0402l0wvc.");
        Check.due("load with nothing in the left pan", right.load(), 0);
        Check.due("nothing in the left pan: outcome", right.weighing(0, 2), 2);
    }

    private static void asNew() {
        FalsePan x = Check.used();
        x.save(1);
        Check.due("load", x.load(), 0);
        Check.due("load: as a new object", Check.look(x), Check.look(Check.loaded("P0500l0")));
        Check.due("load: accused", x.about(7) + x.about(8), 0);
        Check.due("load: arms", x.about(4) * 100 + x.about(5), 1010);
        Check.due("load: no state is remembered", Check.answer(x, y -> y.undo()), "throws IllegalStateException");
        Check.due("load: slot 0", Check.answer(x, y -> y.restore(0)), "throws IllegalStateException");
        Check.due("load: slot 1", Check.answer(x, y -> y.restore(1)), "throws IllegalStateException");
        Check.due("load: keeps the text", x.clearText(), 7);
        FalsePan c = Check.loaded("P0500l0wavb.a1011");
        Check.due("load: its commands are not remembered either", Check.answer(c, y -> y.undo()),
                "throws IllegalStateException");
    }
}
