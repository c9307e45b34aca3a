/** Promise 2: append. */
public final class Promise02Append {
    public static void main(String[] args) {
        FalsePan x = new FalsePan();
        Check.due("append(0)", x.append(0), 1);
        Check.due("append(255)", x.append(255), 2);
        for (int i = 3; i <= 120; i++) {
            Check.due("append, to the length " + i, x.append('P'), i);
        }
        Check.due("append is no action", Check.answer(x, y -> y.undo()), "throws IllegalStateException");
        FalsePan t = Check.withText("P0900l0");
        Check.due("what was appended is read in its order", t.errorPosition(), FalsePan.NONE);
        Check.Maker full = () -> Check.withText("P0900l0" + "a1010".repeat(22) + "wav");
        Check.due("a full text", full.make().errorPosition(), 120);
        Check.refused("append('.') to a full text", IllegalStateException.class, full, y -> y.append('.'));
        Check.refused("append(-1) to a full text", IllegalArgumentException.class, full, y -> y.append(-1));
        Check.refused("append(-1)", IllegalArgumentException.class, Check::used, y -> y.append(-1));
        Check.refused("append(256)", IllegalArgumentException.class, Check::used, y -> y.append(256));
        Check.refused("append(least)", IllegalArgumentException.class, Check::used,
                y -> y.append(Integer.MIN_VALUE));
        Check.refused("append('P' + 65536)", IllegalArgumentException.class, Check::used,
                y -> y.append('P' + 65536));
        Check.finish();
    }
}
