/** Promise 2: append. */
public final class Promise02Append {
    public static void main(String[] args) {
        lengths();
        characters();
        notAnAction();
        Check.refused("append(-1)", Check.ARGUMENT, y -> y.append(-1));
        Check.refused("append(256)", Check.ARGUMENT, y -> y.append(256));
        Check.refused("append(least)", Check.ARGUMENT, y -> y.append(Integer.MIN_VALUE));
        Check.refused("append(most)", Check.ARGUMENT, y -> y.append(Integer.MAX_VALUE));
        // Behind the lowest bits they would be characters that are allowed.
        Check.refused("append('a' + 256)", Check.ARGUMENT, Check::used, y -> y.append('a' + 256));
        Check.refused("append('w' + 65536)", Check.ARGUMENT, Check::used, y -> y.append('w' + 65536));
        Check.refused("append('w' - 65536)", Check.ARGUMENT, Check::used, y -> y.append('w' - 65536));
        for (int c : new int[] {0, 'w', 255}) {
            Check.refused("append(" + c + ") to 120 characters", Check.STATE, Check::full, y -> y.append(c));
        }
        Check.refused("append(-1) to 120 characters", Check.ARGUMENT, Check::full, y -> y.append(-1));
        Check.refused("append(256) to 120 characters", Check.ARGUMENT, Check::full, y -> y.append(256));
        Check.finish();
    }

    private static void lengths() {
        Pan x = new Pan();
        for (int i = 1; i <= 120; i++) {
            Check.due("append, to the length " + i, x.append('P'), i);
        }
        Check.refuses("append behind 120 characters", Check.STATE, x, y -> y.append('P'));
        Check.refuses("append behind it", Check.STATE, x, y -> y.append('P'));
        Check.due("the length behind it", x.clearText(), 120);
        Check.due("append to the text that was emptied", x.append('P'), 1);
        Pan refused = Check.withText("P0");
        Check.refuses("append(256)", Check.ARGUMENT, refused, y -> y.append(256));
        Check.due("append behind one that was refused", refused.append('3'), 3);
    }

    /** Each code of 0 to 255 is taken; which one it is can be seen where only one is allowed. */
    private static void characters() {
        for (int c = 0; c <= 255; c++) {
            Pan x = new Pan();
            Check.due("append(" + c + ")", x.append(c), 1);
            Check.due("the text of the character " + c, x.errorPosition(), c == 'P' ? 1 : 0);
        }
        Check.due("what was appended is read in its order", Check.withText("P0900l0").errorPosition(), Check.NONE);
        Check.due("the last character", Check.withText("P0900l0" + (char) 255).errorPosition(), 7);
    }

    private static void notAnAction() {
        Pan x = Check.used();
        String before = Check.state(x);
        x.append('w');
        Check.due("append leaves the state", Check.state(x), before);
        Check.due("append is no action", x.undo(), 6);
        Check.due("append leaves the save slots", x.restore(0), 33);
        Pan loaded = Check.loaded("P0300l0");
        Check.due("append behind load, which keeps the text", loaded.append('w'), 8);
    }
}
