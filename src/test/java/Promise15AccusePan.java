/** Promise 15: accusePan. */
public final class Promise15AccusePan {
    public static void main(String[] args) {
        for (int hidden = 0; hidden < 3; hidden++) {
            for (String table : new String[] {"P0300l", "P0502h", "P1200t"}) {
                accuse(table + hidden, hidden);
            }
        }
        for (int pan : new int[] {-1, 3, 4, -2, Integer.MIN_VALUE, Integer.MIN_VALUE + 2, Integer.MAX_VALUE}) {
            Check.refused("accusePan(" + pan + ")", Check.ARGUMENT, y -> y.accusePan(pan));
        }
        Check.finish();
    }

    private static void accuse(String text, int hidden) {
        Pan x = Check.loaded(text);
        for (int pan = 0; pan < 3; pan++) {
            Check.due(text + ": accusePan(" + pan + ")", x.accusePan(pan), pan == hidden ? 1 : 0);
            Check.due(text + ": rightly", x.about(7), pan >= hidden ? 1 : 0);
            Check.due(text + ": wrongly", x.about(8), pan >= hidden ? pan : pan + 1);
        }
        Check.due(text + ": the cases stay", x.about(2), x.about(1));
        Check.due(text + ": accusePan is an action", x.undo(), 2);
        Check.due(text + ": taken back", x.about(7) + x.about(8), 2);
        Check.due(text + ": undo", x.undo(), 1);
        Check.due(text + ": undo", x.undo(), 0);
        Check.due(text + ": taken back", x.about(7) + x.about(8), 0);
    }
}
