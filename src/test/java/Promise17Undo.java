import java.util.List;

/** Promise 17: undo. */
public final class Promise17Undo {
    public static void main(String[] args) {
        eachAction();
        fourteen();
        notActions();
        backAndOn();
        Check.refused("undo of a new object", Check.STATE, Pan::new, y -> y.undo());
        Check.refused("undo behind load", Check.STATE, () -> Check.loaded("P0500l0wavb."), y -> y.undo());
        Check.refused("undo behind restore", Check.STATE,
                () -> {
                    Pan x = Check.full();
                    x.restore(0);
                    return x;
                }, y -> y.undo());
        Check.refused("undo of one state more than there are", Check.STATE,
                () -> {
                    Pan x = Check.full();
                    for (int i = 0; i < 14; i++) {
                        x.undo();
                    }
                    return x;
                }, y -> y.undo());
        Check.finish();
    }

    /** Every kind of action, and back again, any number of steps: all of the state is as it was. */
    private static void eachAction() {
        List<Check.On> actions = List.of(y -> y.hide(4, 17), y -> y.weigh(3, 12), y -> y.arms(9, 10),
                y -> y.accuse(2, true), y -> y.accuse(2, false), y -> y.accusePan(2), y -> y.accusePan(0),
                y -> y.weigh(1, 6), y -> y.forget(), y -> y.forget(), y -> y.hide(3, 20), y -> y.arms(20, 1),
                y -> y.weigh(1, 6), y -> y.arms(20, 1));
        for (int kept = 0; kept <= actions.size(); kept++) {
            Pan x = done(actions);
            for (int i = actions.size() - 1; i >= kept; i--) {
                Check.due("undo", x.undo(), i);
            }
            Check.due("the state behind " + kept + " actions", Check.state(x),
                    Check.state(done(actions.subList(0, kept))));
        }
    }

    private static Pan done(List<Check.On> actions) {
        Pan x = new Pan();
        for (Check.On action : actions) {
            action.answer(x);
        }
        return x;
    }

    private static void fourteen() {
        Pan x = new Pan();
        for (int i = 1; i <= 20; i++) {
            x.arms(i, 20);
        }
        for (int i = 13; i >= 0; i--) {
            Check.due("undo of many", x.undo(), i);
            Check.due("the left arm then", x.about(4), i + 6);
        }
        Check.refuses("the oldest are forgotten", Check.STATE, x, y -> y.undo());
        Check.due("the state stays", x.about(4), 6);
        for (int i = 1; i <= 14; i++) {
            x.arms(i, 1);
        }
        x.undo();
        x.undo();
        x.arms(5, 5);
        x.arms(6, 6);
        x.arms(7, 7);
        Check.due("the arms, behind more", x.undo(), 13);
        Check.due("the left arm", x.about(4), 6);
        x.undo();
        Check.due("the left arm", x.about(4), 5);
        x.undo();
        Check.due("the left arm", x.about(4), 12);
        for (int i = 10; i >= 0; i--) {
            Check.due("undo", x.undo(), i);
        }
        Check.due("the left arm at the end", x.about(4), 1);
    }

    private static void notActions() {
        Pan x = Check.used();
        x.about(0);
        x.coin(0);
        x.pans();
        x.isLeft(0);
        x.weighing(0, 0);
        x.leaves(1, 2, 0);
        x.best(1, 0);
        x.sharpest();
        x.needs();
        x.bestArms(1, 2);
        x.runScript(1, 10001L);
        x.simulate(5L, 20);
        x.save(1);
        x.append('a');
        x.errorPosition();
        x.clearText();
        Check.due("only actions are remembered", x.undo(), 6);
        Pan y = Check.used();
        Check.refuses("weigh of nothing", Check.ARGUMENT, y, z -> z.weigh(0, 0));
        Check.refuses("accuse of no coin", Check.INDEX, y, z -> z.accuse(9, true));
        Check.refuses("load of no table", Check.STATE, y, z -> z.append('x') + z.load());
        Check.refuses("restore of nothing", Check.STATE, y, z -> z.restore(1));
        Check.due("calls that throw are no actions", y.undo(), 6);
    }

    /** Back to the start and on again, many times: no state is mixed up with another one. */
    private static void backAndOn() {
        Pan x = new Pan();
        for (int turn = 0; turn < 10; turn++) {
            for (int i = 0; i <= turn; i++) {
                x.arms(1 + i, 1 + turn);
            }
            for (int i = turn; i >= 0; i--) {
                Check.due("back: undo", x.undo(), i);
                Check.due("back: the left arm", x.about(4), i == 0 ? 10 : i);
                Check.due("back: the right arm", x.about(5), i == 0 ? 10 : 1 + turn);
            }
        }
    }
}
