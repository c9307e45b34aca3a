/** Promise 1: a new object. */
public final class Promise01NewObject {
    public static void main(String[] args) {
        FalsePan x = new FalsePan();
        int[] want = {9, 57, 57, 0, 10, 10, 0, 0, 0};
        for (int i = 0; i < want.length; i++) {
            Check.due("new: about(" + i + ")", x.about(i), want[i]);
        }
        for (int k = 0; k < 57; k++) {
            Check.due("new: isLeft(" + k + ")", x.isLeft(k), 1);
        }
        Check.due("new: the text", x.clearText(), 0);
        Check.due("new: undo", Check.answer(x, y -> y.undo()), "throws IllegalStateException");
        Check.due("new: restore(0)", Check.answer(x, y -> y.restore(0)), "throws IllegalStateException");
        Check.due("new: restore(1)", Check.answer(x, y -> y.restore(1)), "throws IllegalStateException");
        Check.due("new: the case 0 is hidden, coin", x.accuse(0, false), 1);
        Check.due("new: the case 0 is hidden, pan", x.accusePan(0), 1);
        Check.due("NONE", FalsePan.NONE, -1);
        FalsePan other = new FalsePan();
        Check.due("another new object knows nothing of the first", other.about(7), 0);
        Check.finish();
    }
}
