import java.util.ArrayList;
import java.util.List;

/** Promise 17: undo. */
public final class Promise17Undo {
    public static void main(String[] args) {
        eachAction();
        fourteen();
        notActions();
        Check.refused("undo of a new object", IllegalStateException.class, FalsePan::new, y -> y.undo());
        Check.refused("undo behind load", IllegalStateException.class, () -> Check.loaded("P0500l0wavb."),
                y -> y.undo());
        Check.finish();
    }

    /** Every kind of action, and back again step by step. */
    private static void eachAction() {
        FalsePan x = new FalsePan();
        List<Check.On> actions = List.of(y -> y.hide(6, 17), y -> y.weigh(3, 12), y -> y.arms(9, 10),
                y -> y.weigh(3, 12), y -> y.accuse(2, true), y -> y.accuse(0, true), y -> y.accusePan(2),
                y -> y.accusePan(0), y -> y.forget(), y -> y.hide(4, 26), y -> y.weigh(1, 2), y -> y.arms(9, 10));
        List<String> seen = new ArrayList<>();
        for (Check.On action : actions) {
            seen.add(Check.look(x));
            action.answer(x);
        }
        for (int i = seen.size() - 1; i >= 0; i--) {
            Check.due("undo", x.undo(), i);
            Check.due("the state behind it", Check.look(x), seen.get(i));
        }
        Check.due("undo of none", Check.answer(x, y -> y.undo()), "throws IllegalStateException");
        // Behind undo the hidden case is the one of then, too.
        Check.due("the hidden coin of then", x.accuse(0, false), 1);
    }

    private static void fourteen() {
        FalsePan x = new FalsePan();
        for (int i = 1; i <= 20; i++) {
            x.arms(i, 20);
        }
        for (int i = 13; i >= 0; i--) {
            Check.due("undo of many", x.undo(), i);
            Check.due("the left arm then", x.about(4), i + 6);
        }
        Check.due("the oldest are forgotten", Check.answer(x, y -> y.undo()), "throws IllegalStateException");
        for (int i = 1; i <= 14; i++) {
            x.arms(i, 1);
        }
        x.undo();
        x.undo();
        x.arms(5, 5);
        x.arms(6, 6);
        x.arms(7, 7);
        Check.due("the arms, behind more", x.undo(), 13);
        Check.due("the left arm", x.about(4), 6);
        x.undo();
        Check.due("the left arm", x.about(4), 5);
        x.undo();
        Check.due("the left arm", x.about(4), 12);
        for (int i = 10; i >= 0; i--) {
            Check.due("undo", x.undo(), i);
        }
        Check.due("the left arm at the end", x.about(4), 1);
    }

    private static void notActions() {
        FalsePan x = Check.used();
        x.leaves(1, 2, 0);
        x.best(1, 0);
        x.sharpest();
        x.needs();
        x.bestArms(1, 2);
        x.runScript(1, 10001L);
        x.simulate(5L, 20);
        x.save(1);
        x.append('a');
        x.clearText();
        Check.due("only actions are remembered", x.undo(), 6);
        FalsePan y = Check.used();
        Check.answer(y, z -> z.weigh(0, 0));
        Check.answer(y, z -> z.accuse(9, true));
        Check.due("calls that throw are no actions", y.undo(), 6);
    }
}
