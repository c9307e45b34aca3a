/** Promise 20: sharpest. */
public final class Promise20Sharpest {
    public static void main(String[] args) {
        sharpest("P0900l0", 1);
        sharpest("P0300l0", 1);
        sharpest("P0302h0wavb.", 2);
        // c is light or heavy, or none is false.
        sharpest("P0302h0wavb.wbva.", 2);
        // c is heavy, or b light and the right pan false: b against a tells.
        sharpest("P0302h0wavb.wavc.", 100);
        // One case is left.
        sharpest("P0302h0wavb.wbva.wavc.", -1);
        // A coin against none always sinks, and against another one, too.
        sharpest("P0300l0a2001", -1);
        // A coin against none rises just if the right pan is false.
        sharpest("P0300l0a0120", 12);
        Check.onlyAnswers("sharpest", Check.used().sharpest(), Check::used, y -> y.sharpest());
        againstLeaves("P0500l0wavb.a1110wcvd.a0910");
        againstLeaves("P0702h1wabvcd.a1112");
        againstLeaves("P1205l2wabvcd.wavbe.a0910");
        Check.finish();
    }

    private static void sharpest(String text, int want) {
        Check.onlyAnswers(text + ": sharpest", want, () -> Check.loaded(text), y -> y.sharpest());
    }

    /** The number of unlike pairs, told by leaves(). */
    private static void againstLeaves(String text) {
        FalsePan x = Check.loaded(text);
        long most = 0;
        int found = FalsePan.NONE;
        for (int a = 0; a < x.about(0); a++) {
            for (int b = 0; b <= 12; b++) {
                if (b == a || b >= x.about(0) && b < 12) {
                    continue;
                }
                int right = b == 12 ? 0 : 1 << b;
                long pairs = x.about(2) * x.about(2);
                for (int o = 0; o < 3; o++) {
                    long same = x.leaves(1 << a, right, o);
                    pairs -= same * same;
                }
                if (pairs > most) {
                    most = pairs;
                    found = 100 * a + b;
                }
            }
        }
        Check.due(text + ": sharpest by leaves()", x.sharpest(), found);
    }
}
