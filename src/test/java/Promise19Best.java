import java.util.ArrayList;
import java.util.List;

/** Promise 19: best. */
public final class Promise19Best {
    public static void main(String[] args) {
        numbers();
        for (int j = 1; j <= 2; j++) {
            byLeaves("P0604h0wavb.wbva.wcvd.", j);
            byLeaves("P0605l2wabvcd.a1011", j);
            byLeaves("P0602l1wavb.wbvc.a1110", j);
            byLeaves("P0402h0wavd.wbcvad.", j);
            byLeaves("P0402l2wdvb.a1011wbv.", j);
            byLeaves("P0503h0wabvcd.a0910wavb.", j);
            byLeaves("P1211h1wabcvjkl.", j);
            byLeaves("P1202h0wacgivbdfl.wbdgjvefhk.", j);
            byLeaves("P0302h2wav.a1110wav.", j);
            byLeaves("P1205h2wklvgi.wdghklvafj.wklvbj.a2019wcdgivabef.", j);
            byLeaves("P1202h0whivkl.a1112wjvk.a1110wabdfgkvehl.wcfhkvabdgj.wgijlvcdef.", j);
        }
        lastCoins();
        fewCoins();
        for (int j = 1; j <= 2; j++) {
            for (int what = 0; what <= 2; what++) {
                int coins = j;
                int number = what;
                Check.changesNothing("best(" + j + ", " + what + ")", y -> y.best(coins, number));
            }
        }
        for (int bad : new int[] {0, 3, -1, 4, Integer.MIN_VALUE, Integer.MIN_VALUE + 1, Integer.MAX_VALUE}) {
            for (int what = -1; what <= 3; what++) {
                int number = what;
                Check.refused("best(" + bad + ", " + what + ")", Check.ARGUMENT, y -> y.best(bad, number));
            }
        }
        for (int bad : new int[] {-1, 3, -2, 4, Integer.MIN_VALUE, Integer.MAX_VALUE}) {
            Check.refused("best(1, " + bad + ")", Check.ARGUMENT, y -> y.best(1, bad));
            Check.refused("best(2, " + bad + ")", Check.ARGUMENT, y -> y.best(2, bad));
        }
        Check.finish();
    }

    private static void best(String text, int j, int left, int right, int worst) {
        int[] want = {left, right, worst};
        for (int i = 0; i < 3; i++) {
            int what = i;
            Check.onlyAnswers(text + ": best(" + j + ", " + i + ")", want[i], () -> Check.loaded(text),
                    y -> y.best(j, what));
        }
    }

    private static void numbers() {
        best("P0300l0", 1, 1, 2, 7);
        best("P0400l0", 2, 3, 12, 9);
        best("P0900l0", 1, 1, 2, 19);
        best("P0900l0", 2, 3, 12, 19);
        best("P1200l0", 1, 1, 2, 25);
        best("P1200l0", 2, 3, 12, 25);
        best("P0302h0wavb.", 1, 1, 4, 3);
        best("P0402h0wavb.", 2, 3, 12, 3);
        // c is light or heavy, or none is false: c has to be weighed; a in
        // the left pan has the least number.
        best("P0302h0wavb.wbva.", 1, 1, 4, 1);
        best("P0402h0wavb.wbva.", 2, 3, 12, 2);
        // c is heavy, or b light and the right pan false: b against a tells.
        best("P0302h0wavb.wavc.", 1, 2, 1, 1);
        // One case is left: nothing is left to tell.
        best("P0302h0wavb.wbva.wavc.", 1, 1, 2, 1);
        // With such arms no weighing tells anything.
        best("P0300l0a0120", 1, 1, 2, 21);
        best("P0400l0a0120", 2, 3, 12, 27);
        // 20 weighings, behind which another one cannot be done, but told of.
        best("P0302h0" + "wavb.".repeat(20), 1, 1, 4, 3);
    }

    /** The last coins are the best ones, in the one pan or the other. */
    private static void lastCoins() {
        // l is light or heavy, or none is false.
        best("P1211h0wabcdevfghij.wfghijvabcde.wkva.", 1, 1, 2048, 1);
        best("P1211h0wabcdevfghij.wfghijvabcde.wkva.", 2, 3, 2052, 1);
        best("P1211l1wkvd.wlvj.wjkvci.", 1, 2048, 1024, 1);
        best("P1211l0a1110wikvbl.wlvc.", 2, 2049, 6, 1);
        best("P1207h2wlvh.whivkl.", 2, 3, 3072, 2);
        best("P0400l2wcva.wavd.", 1, 8, 1, 1);
    }

    /** "NONE if there are not so many coins": 2 against 2 of 3; 4 are enough. */
    private static void fewCoins() {
        best("P0300l0", 2, Check.NONE, Check.NONE, Check.NONE);
        best("P0302h0wavb.wbva.wavc.", 2, Check.NONE, Check.NONE, Check.NONE);
        best("P0402h0wavb.wbva.", 2, 3, 12, 2);
        Pan x = Check.hidden(12, 0);
        x.hide(3, 0);
        Check.due("3 coins where there were 12: best(2, 2)", x.best(2, 2), Check.NONE);
        x.undo();
        Check.due("and 12 again: best(2, 2)", x.best(2, 2), 25);
        Check.Maker three = () -> Check.loaded("P0300l0");
        Check.refused("best(2, 3) of 3 coins", Check.ARGUMENT, three, y -> y.best(2, 3));
        Check.refused("best(2, -1) of 3 coins", Check.ARGUMENT, three, y -> y.best(2, -1));
        Check.refused("best(3, 0) of 3 coins", Check.ARGUMENT, three, y -> y.best(3, 0));
    }

    /** The best weighing, told by leaves() of the weighings in their order. */
    private static void byLeaves(String text, int j) {
        int end = 1 << Check.loaded(text).about(0);
        List<Integer> sets = new ArrayList<>();
        for (int set = 1; set < end; set++) {
            if (Integer.bitCount(set) == j) {
                sets.add(set);
            }
        }
        int[] found = {Check.NONE, Check.NONE, 1000};
        for (int a : sets) {
            Pan x = Check.loaded(text);
            for (int b : sets) {
                if ((a & b) == 0) {
                    int worst = Math.max(x.leaves(a, b, 0), Math.max(x.leaves(a, b, 1), x.leaves(a, b, 2)));
                    found = worst < found[2] ? new int[] {a, b, worst} : found;
                }
            }
        }
        best(text, j, found[0], found[1], found[2] == 1000 ? Check.NONE : found[2]);
    }
}
