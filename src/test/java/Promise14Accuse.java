/** Promise 14: accuse. */
public final class Promise14Accuse {
    public static void main(String[] args) {
        Pan x = Check.loaded("P0502h1");
        Check.due("accuse(2, true)", x.accuse(2, true), 1);
        Check.due("accuse(2, false)", x.accuse(2, false), 0);
        Check.due("accuse(1, true)", x.accuse(1, true), 0);
        Check.due("accuse(2, true) again", x.accuse(2, true), 1);
        Check.due("rightly", x.about(7), 2);
        Check.due("wrongly", x.about(8), 2);
        Check.due("the cases stay", x.about(2), 33);
        Check.due("accuse is an action", x.undo(), 3);
        Check.due("rightly, taken back", x.about(7), 1);
        x.accuse(0, false);
        Check.due("a wrong one is an action, too", x.undo(), 3);
        Check.due("wrongly, taken back", x.about(8), 2);
        firstAndLast();
        allTrue();
        for (int c : new int[] {-1, 5, 12, -32, 32, Integer.MIN_VALUE, Integer.MIN_VALUE + 3, Integer.MAX_VALUE}) {
            Check.refused("accuse(" + c + ", true)", Check.INDEX, y -> y.accuse(c, true));
            Check.refused("accuse(" + c + ", false)", Check.INDEX, y -> y.accuse(c, false));
        }
        Check.finish();
    }

    /** The first and the last coin of the fewest, the most, and all between, each hidden and accused. */
    private static void firstAndLast() {
        for (int coins = 3; coins <= 12; coins++) {
            for (int hidden : new int[] {0, coins - 1}) {
                for (int heavy = 0; heavy <= 1; heavy++) {
                    Pan x = Check.hidden(coins, 3 * (2 * hidden + heavy));
                    String told = "of " + coins + ", with " + hidden + " " + heavy + ": ";
                    Check.due(told + "accuse(0, false)", x.accuse(0, false), hidden == 0 && heavy == 0 ? 1 : 0);
                    Check.due(told + "accuse(0, true)", x.accuse(0, true), hidden == 0 && heavy == 1 ? 1 : 0);
                    Check.due(told + "the last, false", x.accuse(coins - 1, false), hidden > 0 && heavy == 0 ? 1 : 0);
                    Check.due(told + "the last, true", x.accuse(coins - 1, true), hidden > 0 && heavy == 1 ? 1 : 0);
                    Check.due(told + "rightly", x.about(7), 1);
                    Check.due(told + "wrongly", x.about(8), 3);
                }
            }
            int n = coins;
            Check.Maker maker = () -> Check.hidden(n, 0);
            Check.refused("accuse(-1, false) of " + n, Check.INDEX, maker, y -> y.accuse(-1, false));
            Check.refused("accuse(" + n + ", true) of " + n, Check.INDEX, maker, y -> y.accuse(n, true));
        }
    }

    private static void allTrue() {
        Pan none = Check.loaded("P0504t0");
        for (int c = 0; c < 5; c++) {
            Check.due("all are true: light " + c, none.accuse(c, false), 0);
            Check.due("all are true: heavy " + c, none.accuse(c, true), 0);
        }
        Check.due("wrongly", none.about(8), 10);
        // That all coins are true has the number that a light coin 5 would have.
        Check.refused("accuse(5, false), all true", Check.INDEX, () -> Check.loaded("P0500t0"),
                y -> y.accuse(5, false));
        Check.refused("accuse(12, false), all true", Check.INDEX, () -> Check.loaded("P1200t0"),
                y -> y.accuse(12, false));
    }
}
