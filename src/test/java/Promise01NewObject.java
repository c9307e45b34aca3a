/** Promise 1: a new object. */
public final class Promise01NewObject {
    public static void main(String[] args) {
        Pan x = new Pan();
        int[] want = {9, 57, 57, 0, 10, 10, 0, 0, 0};
        for (int i = 0; i < want.length; i++) {
            Check.due("new: about(" + i + ")", x.about(i), want[i]);
        }
        for (int k = 0; k < 57; k++) {
            Check.due("new: isLeft(" + k + ")", x.isLeft(k), 1);
        }
        for (int c = 0; c < 9; c++) {
            Check.due("new: coin(" + c + ")", x.coin(c), 7);
        }
        Check.due("new: pans", x.pans(), 7);
        Check.due("new: the hidden case", Check.hiddenCase(x), 0);
        nothingYet();
        Check.due("new: the case 0 is hidden, coin", new Pan().accuse(0, false), 1);
        Check.due("new: the case 0 is hidden, pan", new Pan().accusePan(0), 1);
        eachForItself();
        Check.finish();
    }

    /** No weighing, no text, no state remembered, nothing in a save slot. */
    private static void nothingYet() {
        Check.refused("new: isLeft(57)", Check.INDEX, Pan::new, y -> y.isLeft(57));
        Check.refused("new: coin(9)", Check.INDEX, Pan::new, y -> y.coin(9));
        Check.refused("new: weighing(0, 0)", Check.INDEX, Pan::new, y -> y.weighing(0, 0));
        Check.refused("new: forget", Check.STATE, Pan::new, y -> y.forget());
        Check.refused("new: undo", Check.STATE, Pan::new, y -> y.undo());
        Check.refused("new: load", Check.STATE, Pan::new, y -> y.load());
        Check.refused("new: restore(0)", Check.STATE, Pan::new, y -> y.restore(0));
        Check.refused("new: restore(1)", Check.STATE, Pan::new, y -> y.restore(1));
        Check.onlyAnswers("new: errorPosition", 0, Pan::new, y -> y.errorPosition());
        Check.onlyAnswers("new: clearText", 0, Pan::new, y -> y.clearText());
    }

    private static void eachForItself() {
        Pan first = Check.used();
        String told = Check.state(first);
        Pan other = new Pan();
        Check.due("a new object beside another one", Check.state(other), Check.state(new Pan()));
        Check.due("its text", other.append('P'), 1);
        Check.refuses("its save slot", Check.STATE, other, y -> y.restore(0));
        other.hide(3, 20);
        Check.due("the other one behind it", Check.state(first), told);
    }
}
