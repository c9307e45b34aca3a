import java.util.ArrayList;
import java.util.List;

/** Terms, "Actions and undo". */
public final class Terms4Undo {
    public static void main(String[] args) {
        allButTextAndSlots();
        alsoIfNothingBecomesDifferent();
        undoIsNone();
        notActions();
        refusedCalls();
        for (int actions = 0; actions <= 32; actions++) {
            atMostFourteen(actions);
        }
        theOldestIsForgotten();
        Check.finish();
    }

    /** "The state, which consists of everything but the text and the save slots." */
    private static void allButTextAndSlots() {
        Pan x = Check.withText("P");
        x.arms(3, 4);
        Check.write(x, "0300t0");
        x.hide(4, 7);
        x.save(0);
        x.weigh(1, 2);
        x.save(1);
        x.accusePan(0);
        for (int i = 0; i < 4; i++) {
            x.undo();
        }
        Check.due("undo of all", Check.state(x), Check.state(new Pan()));
        Check.due("undo leaves the text", x.errorPosition(), Check.NONE);
        Check.due("undo leaves the save slot 0", x.restore(0), 27);
        Check.due("what is in it", Check.state(x), Check.state(with(y -> y.arms(3, 4), y -> y.hide(4, 7))));
        Check.due("undo leaves the save slot 1", Check.answer(x, y -> y.restore(1)).startsWith("throws") ? 0 : 1, 1);
        Check.due("what is in it", Check.state(x),
                Check.state(with(y -> y.arms(3, 4), y -> y.hide(4, 7), y -> y.weigh(1, 2))));
        Check.due("the length of the text", x.clearText(), 7);

        Pan cleared = Check.withText("P0300t0");
        cleared.arms(1, 1);
        cleared.clearText();
        cleared.undo();
        Check.due("undo does not bring back a text", cleared.clearText(), 0);
    }

    private static Pan with(Check.On... actions) {
        Pan x = new Pan();
        for (Check.On action : actions) {
            action.answer(x);
        }
        return x;
    }

    /** "Each call of one of them is an action, also if nothing becomes different." */
    private static void alsoIfNothingBecomesDifferent() {
        Pan x = new Pan();
        x.arms(10, 10);
        Check.due("arms as they were: undo", x.undo(), 0);
        x.hide(9, 0);
        Check.due("hide what was hidden: undo", x.undo(), 0);
        x.hide(9, 0);
        x.arms(10, 10);
        x.arms(10, 10);
        Check.due("three of them: undo", x.undo(), 2);
        Check.due("three of them: undo", x.undo(), 1);
        Check.due("three of them: undo", x.undo(), 0);
        Check.refuses("three of them: undo", Check.STATE, x, y -> y.undo());
        Check.due("the state", Check.state(x), Check.state(new Pan()));
        // They push out older states, too.
        x.arms(5, 5);
        for (int i = 0; i < 14; i++) {
            x.arms(6, 6);
        }
        for (int i = 13; i >= 0; i--) {
            Check.due("arms as they were, often: undo", x.undo(), i);
            Check.due("the left arm", x.about(4), i == 0 ? 5 : 6);
        }
        Check.refuses("arms as they were, often: undo", Check.STATE, x, y -> y.undo());
        // A weighing that tells nothing is one, and so is a wrong accusation.
        Pan y = Check.loaded("P0304t0wavb.wbva.wavc.");
        y.weigh(1, 2);
        y.accuse(0, true);
        y.accusePan(1);
        Check.due("undo", y.undo(), 2);
        Check.due("undo", y.undo(), 1);
        Check.due("undo", y.undo(), 0);
        Check.due("weighings", y.about(3), 3);
    }

    /** "(undo is none)". */
    private static void undoIsNone() {
        Pan x = new Pan();
        for (int i = 1; i <= 6; i++) {
            x.arms(i, 1);
        }
        for (int i = 5; i >= 0; i--) {
            Check.due("undo", x.undo(), i);
            Check.due("the left arm behind it", x.about(4), i == 0 ? 10 : i);
        }
        Check.refuses("undo of undo", Check.STATE, x, y -> y.undo());
        x.arms(8, 8);
        x.undo();
        Check.refuses("undo behind an action and its undo", Check.STATE, x, y -> y.undo());
        Check.due("the left arm", x.about(4), 10);
    }

    /** "load and restore are not actions." */
    private static void notActions() {
        Check.refused("undo behind load", Check.STATE, () -> Check.loaded("P0500l0a0102wavb."), y -> y.undo());
        Check.refused("undo behind restore", Check.STATE, Terms4Undo::restored, y -> y.undo());
        Pan x = restored();
        x.arms(1, 2);
        Check.due("undo of an action behind restore", x.undo(), 0);
        Check.due("the state behind it", Check.state(x), Check.state(restored()));
        Pan y = Check.loaded("P0500l0wavb.");
        y.forget();
        Check.due("undo of an action behind load", y.undo(), 0);
        Check.due("the state behind it", Check.state(y), Check.state(Check.loaded("P0500l0wavb.")));
    }

    private static Pan restored() {
        Pan x = Check.full();
        x.restore(1);
        return x;
    }

    /** "That does not throw an exception": a call that does is no action. */
    private static void refusedCalls() {
        List<Check.On> calls = List.of(y -> y.hide(2, 0), y -> y.hide(13, 0), y -> y.hide(5, 33), y -> y.hide(5, -1),
                y -> y.arms(0, 1), y -> y.arms(1, 21), y -> y.weigh(0, 0), y -> y.weigh(1, 1), y -> y.weigh(32, 1),
                y -> y.accuse(-1, true), y -> y.accuse(5, false), y -> y.accusePan(-1), y -> y.accusePan(3));
        for (int i = 0; i < calls.size(); i++) {
            Pan x = Check.used();
            String before = Check.state(x);
            String answer = Check.answer(x, calls.get(i));
            Check.that("call " + i + " throws", answer.startsWith("throws"));
            Check.due("call " + i + " leaves the state", Check.state(x), before);
            Check.due("call " + i + " is no action", x.undo(), 6);
        }
        Pan none = Check.hidden(5, 0);
        Check.refuses("forget of none", Check.STATE, none, y -> y.forget());
        Check.due("forget of none is no action", none.undo(), 0);
    }

    /** "At most 14 states are remembered": after so many actions, all of them are taken back, but not more than 14. */
    private static void atMostFourteen(int actions) {
        Pan x = new Pan();
        List<String> states = new ArrayList<>();
        for (int i = 0; i < actions; i++) {
            states.add(Check.brief(x));
            act(x, i);
        }
        int most = Math.min(actions, 14);
        for (int i = 1; i <= most; i++) {
            String told = actions + " actions, undo " + i;
            Check.due(told, x.undo(), most - i);
            Check.due(told + ": the state", Check.brief(x), states.get(actions - i));
        }
        Check.refuses(actions + " actions, one undo more than there are states", Check.STATE, x, y -> y.undo());
    }

    /** One action, a different one each time. */
    private static void act(Pan x, int i) {
        switch (i % 6) {
            case 0: x.hide(3 + i % 10, i % 21); break;
            case 1: x.arms(1 + i % 20, 10); break;
            case 2: x.weigh(1, 2); break;
            case 3: x.accuse(0, i % 4 == 1); break;
            case 4: x.accusePan(i % 3); break;
            default: x.forget(); break;
        }
    }

    /** "When one more is remembered, the oldest one is forgotten", also when some have been taken back. */
    private static void theOldestIsForgotten() {
        for (int back = 0; back <= 14; back++) {
            for (int again = 0; again <= 16; again++) {
                takenBack(back, again);
            }
        }
    }

    private static void takenBack(int back, int again) {
        Pan x = new Pan();
        List<Integer> arms = new ArrayList<>();
        arms.add(10);
        for (int i = 1; i <= 17; i++) {
            x.arms(i, 1);
            arms.add(i);
        }
        for (int i = 0; i < back; i++) {
            x.undo();
            arms.remove(arms.size() - 1);
        }
        for (int i = 1; i <= again; i++) {
            x.arms(i, 2);
            arms.add(i);
        }
        String told = "17 actions, " + back + " taken back, " + again + " more: ";
        int states = Math.min(14, 14 - back + again);
        Check.due(told + "the left arm", x.about(4), arms.get(arms.size() - 1));
        for (int i = 1; i <= states; i++) {
            Check.due(told + "undo", x.undo(), states - i);
            Check.due(told + "the left arm behind it", x.about(4), arms.get(arms.size() - 1 - i));
        }
        Check.refuses(told + "one undo more", Check.STATE, x, y -> y.undo());
    }
}
