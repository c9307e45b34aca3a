/** Terms, "Exceptions", and the constant. */
public final class Terms5Exceptions {
    public static void main(String[] args) {
        doesNotExist();
        outOfRange();
        namedFirst();
        Check.due("NONE", FalsePan.NONE, -1);
        Check.finish();
    }

    /** "A coin, a case, an outcome or a weighing does not exist, or a save slot is not 0 or 1": a number at a time. */
    private static void doesNotExist() {
        for (int far : Check.FAR) {
            noSuch(far);
        }
        Check.refused("the coin -1", Check.INDEX, y -> y.coin(-1));
        Check.refused("the coin 5 of 5", Check.INDEX, y -> y.coin(5));
        Check.refused("to accuse the coin -1", Check.INDEX, y -> y.accuse(-1, false));
        Check.refused("to accuse the coin 5 of 5", Check.INDEX, y -> y.accuse(5, true));
        Check.refused("the case -1", Check.INDEX, y -> y.isLeft(-1));
        Check.refused("the case 33 of 33", Check.INDEX, y -> y.isLeft(33));
        Check.refused("to hide the case -1", Check.INDEX, y -> y.hide(12, -1));
        Check.refused("to hide the case 75 of 75", Check.INDEX, y -> y.hide(12, 75));
        Check.refused("the outcome -1", Check.INDEX, y -> y.leaves(1, 2, -1));
        Check.refused("the outcome 3", Check.INDEX, y -> y.leaves(1, 2, 3));
        Check.refused("the weighing -1", Check.INDEX, y -> y.weighing(-1, 0));
        Check.refused("the weighing 20", Check.INDEX, y -> y.weighing(20, 0));
        Check.refused("to save in the slot -1", Check.INDEX, y -> y.save(-1));
        Check.refused("to save in the slot 2", Check.INDEX, y -> y.save(2));
        Check.refused("to restore the slot -1", Check.INDEX, y -> y.restore(-1));
        Check.refused("to restore the slot 2", Check.INDEX, y -> y.restore(2));
    }

    private static void noSuch(int far) {
        String number = " " + far;
        Check.refused("the coin" + number, Check.INDEX, y -> y.coin(far));
        Check.refused("to accuse light the coin" + number, Check.INDEX, y -> y.accuse(far, false));
        Check.refused("to accuse heavy the coin" + number, Check.INDEX, y -> y.accuse(far, true));
        Check.refused("the case" + number, Check.INDEX, y -> y.isLeft(far));
        Check.refused("to hide the case" + number, Check.INDEX, y -> y.hide(9, far));
        Check.refused("the outcome" + number, Check.INDEX, y -> y.leaves(1, 2, far));
        Check.refused("the weighing" + number, Check.INDEX, y -> y.weighing(far, 5));
        Check.refused("to save in the slot" + number, Check.INDEX, y -> y.save(far));
        Check.refused("to restore the slot" + number, Check.INDEX, y -> y.restore(far));
    }

    /** "Another argument is out of its range." */
    private static void outOfRange() {
        for (int far : Check.FAR) {
            String number = " " + far;
            Check.refused("the character" + number, Check.ARGUMENT, y -> y.append(far));
            Check.refused("about" + number, Check.ARGUMENT, y -> y.about(far));
            Check.refused("weighing, what" + number, Check.ARGUMENT, y -> y.weighing(0, far));
            Check.refused("hide, coins" + number, Check.ARGUMENT, y -> y.hide(far, 0));
            Check.refused("the left arm" + number, Check.ARGUMENT, y -> y.arms(far, 1));
            Check.refused("the right arm" + number, Check.ARGUMENT, y -> y.arms(1, far));
            Check.refused("the pan" + number, Check.ARGUMENT, y -> y.accusePan(far));
            Check.refused("best, j" + number, Check.ARGUMENT, y -> y.best(far, 0));
            Check.refused("best, what" + number, Check.ARGUMENT, y -> y.best(1, far));
            Check.refused("runScript, n" + number, Check.ARGUMENT, y -> y.runScript(far, 50000));
            Check.refused("simulate, m" + number, Check.ARGUMENT, y -> y.simulate(0, far));
        }
    }

    /** "If several exceptions apply to a call, the one that its description names first is thrown." */
    private static void namedFirst() {
        for (int c : new int[] {-1, 256, Integer.MIN_VALUE, Integer.MAX_VALUE}) {
            Check.refused("append(" + c + ") to a text of 120", Check.ARGUMENT, Check::full, y -> y.append(c));
        }
        for (int what : new int[] {-1, 6, Integer.MIN_VALUE, Integer.MAX_VALUE}) {
            Check.refused("weighing(-1, " + what + ")", Check.INDEX, y -> y.weighing(-1, what));
            Check.refused("weighing(20, " + what + ")", Check.INDEX, y -> y.weighing(20, what));
            Check.refused("weighing(0, " + what + ") of none", Check.INDEX, Pan::new, y -> y.weighing(0, what));
        }
        for (int coins : new int[] {2, 13, -1, Integer.MIN_VALUE, Integer.MAX_VALUE}) {
            for (int k : new int[] {-1, 75, 1000, Integer.MIN_VALUE, Integer.MAX_VALUE}) {
                Check.refused("hide(" + coins + ", " + k + ")", Check.ARGUMENT, y -> y.hide(coins, k));
            }
        }
        for (int[] pair : Sets.bad(5)) {
            Check.refused(Sets.told("a twenty-first weigh", pair, 5), Check.ARGUMENT, Check::full,
                    y -> y.weigh(pair[0], pair[1]));
            Check.refused(Sets.told("leaves", pair, 5) + ", the outcome -1", Check.INDEX,
                    y -> y.leaves(pair[0], pair[1], -1));
            Check.refused(Sets.told("leaves", pair, 5) + ", the outcome 3", Check.INDEX,
                    y -> y.leaves(pair[0], pair[1], 3));
        }
        // In no slot anything has been saved, but these do not even exist.
        for (int slot : new int[] {-1, 2, Integer.MIN_VALUE, Integer.MAX_VALUE}) {
            Check.refused("restore(" + slot + ") of a new object", Check.INDEX, Pan::new, y -> y.restore(slot));
        }
    }
}
