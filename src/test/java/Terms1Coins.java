/** Terms, "Coins and cases". */
public final class Terms1Coins {
    public static void main(String[] args) {
        threeToTwelve();
        weightOfCoins();
        weightOfPans();
        numbersOfCases();
        Check.due("at first the case 0 is hidden", Check.hiddenCase(new Pan()), 0);
        Check.finish();
    }

    /** "There are 3 to 12 coins, numbered from 0, at first 9." */
    private static void threeToTwelve() {
        Check.due("coins at first", new Pan().about(0), 9);
        Check.due("the fewest coins", Check.hidden(3, 0).about(0), 3);
        Check.due("the most coins", Check.hidden(12, 0).about(0), 12);
        Check.refused("hide with 2 coins", Check.ARGUMENT, y -> y.hide(2, 0));
        Check.refused("hide with 13 coins", Check.ARGUMENT, y -> y.hide(13, 0));
        for (int coins = 3; coins <= 12; coins++) {
            int n = coins;
            Check.Maker maker = () -> Check.hidden(n, 0);
            Check.onlyAnswers("the first of " + n, 7, maker, y -> y.coin(0));
            Check.onlyAnswers("the last of " + n, 7, maker, y -> y.coin(n - 1));
            Check.refused("one below the first of " + n, Check.INDEX, maker, y -> y.coin(-1));
            Check.refused("one behind the last of " + n, Check.INDEX, maker, y -> y.coin(n));
        }
    }

    private static void outcome(String text, int left, int right, int want) {
        Check.due(text + ": weigh(" + left + ", " + right + ")", Check.loaded(text).weigh(left, right), want);
    }

    /** Level with these arms, and not with arms that are a little more like each other, or less. */
    private static void justLevel(String head, int leftArm, int rightArm, int left, int right) {
        outcome(head + arms(leftArm, rightArm), left, right, 0);
        for (int i = 1; i <= 20; i++) {
            if (i != leftArm) {
                outcome(head + arms(i, rightArm), left, right, i > leftArm ? 1 : 2);
            }
            if (i != rightArm) {
                outcome(head + arms(leftArm, i), left, right, i > rightArm ? 2 : 1);
            }
        }
    }

    private static String arms(int left, int right) {
        return "a" + (left < 10 ? "0" : "") + left + (right < 10 ? "0" : "") + right;
    }

    /** "A true coin weighs 10. One coin is false: it weighs 9, or 11; or all are true." */
    private static void weightOfCoins() {
        justLevel("P0500t0", 10, 10, 1, 2);
        justLevel("P0500t0", 20, 20, 16, 8);
        justLevel("P0500l0", 10, 9, 1, 2);
        justLevel("P0500l0", 9, 10, 2, 1);
        justLevel("P0500l0", 20, 18, 1, 2);
        justLevel("P0500h0", 10, 11, 1, 2);
        justLevel("P0500h0", 11, 10, 2, 1);
        justLevel("P0504l0", 10, 9, 16, 1);
        justLevel("P0504h0", 10, 11, 16, 1);
        justLevel("P1211l0", 10, 9, 2048, 1);
        justLevel("P1211h0", 11, 10, 1, 2048);
        // Several coins: 20 against 10, 19 against 10, 21 against 10, 120 against nothing.
        justLevel("P0504t0", 10, 20, 3, 4);
        justLevel("P0501l0", 10, 19, 3, 4);
        justLevel("P0502l0", 9, 20, 3, 4);
        outcome("P1200t0a0120", 4095, 0, 1);
        outcome("P1200t0a2001", 0, 4095, 2);
        // 49 or 51 against 50, 59 or 61 against 60.
        outcome("P1200l0", 31, 992, 2);
        outcome("P1204h0", 31, 992, 1);
        outcome("P1206l0", 63, 4032, 1);
        outcome("P1211h0", 63, 4032, 2);
        outcome("P1200t0", 63, 4032, 0);
        outcome("P1205h0", 31, 992 << 1, 0);
    }

    /** "A pan may be false: 0 both are true, 1 the left one weighs 1 more than the other, 2 the right one does." */
    private static void weightOfPans() {
        justLevel("P0500t1", 10, 11, 1, 2);
        justLevel("P0500t2", 11, 10, 1, 2);
        justLevel("P0500l1", 10, 10, 1, 2);
        justLevel("P0500h2", 11, 11, 1, 2);
        justLevel("P0501l2", 1, 1, 1, 2);
        justLevel("P0501h1", 20, 20, 1, 2);
        // 12 against 10 times 5 to 6, 11 against 9.
        justLevel("P0500h1", 10, 12, 1, 2);
        justLevel("P0500l2", 11, 9, 1, 2);
        // A false pan weighs 1 with nothing in it, a true one nothing.
        justLevel("P0500t1", 10, 1, 0, 1);
        justLevel("P0500t1", 20, 2, 0, 16);
        justLevel("P0500t2", 1, 10, 1, 0);
        justLevel("P0500l1", 9, 1, 0, 1);
        justLevel("P0500h2", 1, 11, 1, 0);
        outcome("P0500t0a2001", 0, 1, 2);
        outcome("P0500t0a0120", 1, 0, 1);
        outcome("P0500t2a2001", 0, 1, 2);
        outcome("P0500t1a0120", 1, 0, 1);
    }

    /** "It has the number 3 * v + (the pan)", with each coin, and with none false. */
    private static void numbersOfCases() {
        for (int coins = 3; coins <= 12; coins++) {
            for (int v = 0; v <= 2 * coins; v++) {
                for (int pan = 0; pan < 3; pan++) {
                    numberOfCase(coins, v, pan);
                }
            }
        }
    }

    private static void numberOfCase(int coins, int v, int pan) {
        Pan x = Check.hidden(coins, 3 * v + pan);
        String told = "of " + coins + " coins, the case " + (3 * v + pan) + ": ";
        for (int c = 0; c < coins; c++) {
            Check.due(told + "light is " + c, x.accuse(c, false), v == 2 * c ? 1 : 0);
            Check.due(told + "heavy is " + c, x.accuse(c, true), v == 2 * c + 1 ? 1 : 0);
        }
        for (int p = 0; p < 3; p++) {
            Check.due(told + "the pan " + p, x.accusePan(p), pan == p ? 1 : 0);
        }
        Check.due(told + "accused rightly", x.about(7), v == 2 * coins ? 1 : 2);
    }
}
