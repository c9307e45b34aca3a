/** Promise 9: isLeft. */
public final class Promise09IsLeft {
    public static void main(String[] args) {
        // a against b is level: c is light or heavy, or all are true; or a
        // or b makes up for a pan.
        left("P0302h0wavb.", 3, 12, 15, 18, 1, 10, 5, 8);
        left("P0302h0wavb.wbva.", 3, 12, 15, 18);
        // a weighs less than b, or the right pan is false, and no coin of
        // those makes up for it by itself.
        left("P0300l0wavb.", 3, 0, 9, 2, 11, 14, 17, 20);
        left("P0300t1wavb.wbva.", 3, 13, 16, 19);
        left("P0300t1wabc" + "v.", 3, 0, 1, 2, 3, 4, 5, 6, 7, 8, 9, 10, 11, 12, 13, 14, 15, 16, 17, 18, 19, 20);
        // 11 * 10 against 10 * 11: level only if b is heavy or the right pan false, not both.
        left("P0301h0a1110wavb.", 3, 9, 14, 17, 20);
        // One case is left: the first one, the last one.
        left("P0300l0a1009wavb.wbva.wcvb.a1010wbvc.", 3, 0);
        left("P0300t2wavb.wbva.wavc.wcva.", 3, 20);
        firstAndLast();
        Check.finish();
    }

    private static void left(String text, int coins, int... cases) {
        Pan x = Check.loaded(text);
        for (int k = 0; k < 6 * coins + 3; k++) {
            int want = 0;
            for (int left : cases) {
                want |= left == k ? 1 : 0;
            }
            Check.due(text + ": isLeft(" + k + ")", x.isLeft(k), want);
        }
    }

    private static void firstAndLast() {
        for (int coins = 3; coins <= 12; coins++) {
            int n = coins;
            Check.Maker maker = () -> Check.hidden(n, 0);
            Check.onlyAnswers("the first case of " + n, 1, maker, y -> y.isLeft(0));
            Check.onlyAnswers("the last case of " + n, 1, maker, y -> y.isLeft(6 * n + 2));
            Check.refused("one behind the last case of " + n, Check.INDEX, maker, y -> y.isLeft(6 * n + 3));
            Check.refused("one ahead of the first case of " + n, Check.INDEX, maker, y -> y.isLeft(-1));
            Check.refused("the case 75 of " + n, Check.INDEX, maker, y -> y.isLeft(75));
        }
        Check.onlyAnswers("isLeft of the hidden case", 1, Check::used, y -> y.isLeft(22));
        Check.onlyAnswers("isLeft of another", 0, Check::used, y -> y.isLeft(30));
        for (int k = 0; k < 33; k++) {
            int number = k;
            Check.changesNothing("isLeft(" + k + ")", y -> y.isLeft(number));
        }
        Check.refused("isLeft(-1)", Check.INDEX, y -> y.isLeft(-1));
        Check.refused("isLeft(33) of 33", Check.INDEX, y -> y.isLeft(33));
        Check.refused("isLeft(least)", Check.INDEX, y -> y.isLeft(Integer.MIN_VALUE));
        Check.refused("isLeft(most)", Check.INDEX, y -> y.isLeft(Integer.MAX_VALUE));
    }
}
