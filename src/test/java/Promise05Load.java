/** Promise 5: load. */
public final class Promise05Load {
    public static void main(String[] args) {
        hiddenCases();
        commands();
        asNew();
        nothingBehindIt();
        noTable();
        Check.finish();
    }

    /** Each table, with each false coin, whether it exists or not, with l, h, and t, and each pan. */
    private static void hiddenCases() {
        for (int coins = 3; coins <= 12; coins++) {
            for (int coin = 0; coin <= 11; coin++) {
                for (int pan = 0; pan < 3; pan++) {
                    int light = coin < coins ? 2 * coin : 2 * coins;
                    int heavy = coin < coins ? 2 * coin + 1 : 2 * coins;
                    hiddenCase(coins, coin, 'l', pan, 3 * light + pan);
                    hiddenCase(coins, coin, 'h', pan, 3 * heavy + pan);
                    hiddenCase(coins, coin, 't', pan, 3 * 2 * coins + pan);
                }
            }
        }
    }

    private static void hiddenCase(int coins, int coin, char sort, int pan, int k) {
        String text = "P" + two(coins) + two(coin) + sort + pan;
        Pan x = Check.withText(text);
        Check.due("load of " + text, x.load(), 0);
        Check.due(text + ": coins", x.about(0), coins);
        Check.due(text + ": cases", x.about(1), 6 * coins + 3);
        Check.due(text + ": cases left", x.about(2), 6 * coins + 3);
        Check.due(text + ": the hidden case", Check.hiddenCase(x), k);
    }

    private static String two(int number) { return (number < 10 ? "0" : "") + number; }

    private static void commands() {
        // wv. is empty, f is no coin, a lies in both: three are left out.
        Pan x = Check.withText("P0500h0wv.wavb.wfv.wava.a0120wcdvabe.");
        Check.due("load leaves out", x.load(), 3);
        Check.due("weighings", x.about(3), 2);
        Check.due("the first: left", x.weighing(0, 0), 1);
        Check.due("the first: right", x.weighing(0, 1), 2);
        Check.due("the first: outcome", x.weighing(0, 2), 1);
        Check.due("the first: arms", x.weighing(0, 3) * 100 + x.weighing(0, 4), 1010);
        Check.due("the second: left", x.weighing(1, 0), 12);
        Check.due("the second: right", x.weighing(1, 1), 19);
        Check.due("the second: outcome", x.weighing(1, 2), 2);
        Check.due("the second: arms", x.weighing(1, 3) * 100 + x.weighing(1, 4), 120);
        Check.due("the arms behind it", x.about(4) * 100 + x.about(5), 120);
        Pan twenty = Check.loaded("P0300l0" + "wav.".repeat(20));
        Check.due("load of 20 weighings", twenty.about(3), 20);
        Pan many = Check.withText("P0300l0" + "wav.".repeat(26));
        Check.due("load of 26 weighings leaves out", many.load(), 6);
        Check.due("load of 26 weighings", many.about(3), 20);
        Check.due("load again", many.load(), 6);
        Check.due("load again: weighings", many.about(3), 20);
        Pan all = Check.loaded("P1200l0wabcdefvghijkl.");
        Check.due("all letters: left", all.weighing(0, 0), 63);
        Check.due("all letters: right", all.weighing(0, 1), 4032);
        Pan right = Check.loaded("P0402l0wvc.");
        Check.due("nothing in the left pan: left", right.weighing(0, 0), 0);
        Check.due("nothing in the left pan: right", right.weighing(0, 1), 4);
        Check.due("nothing in the left pan: outcome", right.weighing(0, 2), 2);
        Pan arms = Check.loaded("P0402l0a2001a0120");
        Check.due("the last arms", arms.about(4) * 100 + arms.about(5), 120);
    }

    /** "Makes everything as in a new object": whatever was there before. */
    private static void asNew() {
        for (Check.Maker maker : new Check.Maker[] {Check::used, Check::full, Pan::new}) {
            Pan x = maker.make();
            x.clearText();
            Check.write(x, "P0900l0");
            Check.due("load", x.load(), 0);
            Check.due("load of a new table", Check.state(x), Check.state(new Pan()));
            x.clearText();
            Check.write(x, "P0501h2a0910wabvc.");
            Check.due("load", x.load(), 0);
            Check.due("load of a table", Check.state(x), Check.state(Check.loaded("P0501h2a0910wabvc.")));
        }
        Pan x = Check.loaded("P0501h2");
        x.arms(3, 4);
        x.accuse(1, true);
        x.accusePan(0);
        x.weigh(1, 2);
        x.load();
        Check.due("loaded: arms", x.about(4) * 100 + x.about(5), 1010);
        Check.due("loaded: accused rightly", x.about(7), 0);
        Check.due("loaded: accused wrongly", x.about(8), 0);
        Check.due("loaded: weighings", x.about(3), 0);
        Check.due("loaded: cases left", x.about(2), 33);
    }

    /** "Behind it no state is remembered, and both save slots are empty. Keeps the text." */
    private static void nothingBehindIt() {
        Check.Maker maker = () -> {
            Pan x = Check.full();
            x.load();
            return x;
        };
        Check.refused("loaded: undo", Check.STATE, maker, y -> y.undo());
        Check.refused("loaded: restore(0)", Check.STATE, maker, y -> y.restore(0));
        Check.refused("loaded: restore(1)", Check.STATE, maker, y -> y.restore(1));
        Check.due("loaded: the text", maker.make().errorPosition(), Check.NONE);
        Check.due("loaded: its length", maker.make().clearText(), 120);
        Check.due("loaded: load again", maker.make().load(), 1);
        Check.due("loaded: the same table again", Check.state(maker.make()),
                Check.state(Check.loaded("P1204h0" + "a0120".repeat(22))));
        Check.Maker commands = () -> Check.loaded("P0500l0wavb.a1011wavc.");
        Check.refused("loaded with commands: undo", Check.STATE, commands, y -> y.undo());
        Pan x = commands.make();
        for (int i = 1; i <= 15; i++) {
            x.arms(i, i);
        }
        for (int i = 13; i >= 0; i--) {
            Check.due("14 states are remembered behind load", x.undo(), i);
        }
        Check.refuses("but not more", Check.STATE, x, y -> y.undo());
    }

    private static void noTable() {
        for (String more : new String[] {"w", " ", "a010", "wv", "P"}) {
            Check.Maker maker = () -> {
                Pan x = Check.used();
                Check.write(x, more);
                return x;
            };
            Check.refused("load of a table and " + more, Check.STATE, maker, y -> y.load());
        }
        Check.refused("load of 120 characters that are no table", Check.STATE, Promise05Load::fullOfOther,
                y -> y.load());
        Check.refused("load of the empty text, used", Check.STATE, Promise05Load::emptied, y -> y.load());
        Check.refused("load of the empty text, new", Check.STATE, Pan::new, y -> y.load());
    }

    private static Pan emptied() {
        Pan x = Check.full();
        x.clearText();
        return x;
    }

    private static Pan fullOfOther() {
        Pan x = Check.used();
        x.clearText();
        Check.write(x, "P0900l0" + "a1010".repeat(22) + "wav");
        return x;
    }
}
