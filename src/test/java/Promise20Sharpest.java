/** Promise 20: sharpest. */
public final class Promise20Sharpest {
    public static void main(String[] args) {
        sharpest("P0900l0", 1);
        sharpest("P0300l0", 1);
        sharpest("P1200l0", 1);
        sharpest("P0302h0wavb.", 2);
        // c is light or heavy, or none is false.
        sharpest("P0302h0wavb.wbva.", 2);
        // c is heavy, or b light and the right pan false: b against a tells.
        sharpest("P0302h0wavb.wavc.", 100);
        none();
        againstNone();
        againstLeaves("P0500l0wavb.a1110wcvd.a0910");
        againstLeaves("P0702h1wabvcd.a1112");
        againstLeaves("P1205l2wabvcd.wavbe.a0910");
        againstLeaves("P1211l1wefklvabcgi.wcdefghjlvabk.wcikvejl.wbdfkvacil.");
        againstLeaves("P1202h2wabhijvckl.wabfhjvcegil.wbijkvafhl.");
        againstLeaves("P1200t2wcelvbfg.wbfgklvachij.");
        againstLeaves("P0302h2wav.a1110wav.");
        againstLeaves("P0301h2a1110wavc.a1109wbvc.");
        againstLeaves("P0401h0a1211wav.wav.");
        againstLeaves("P1201h0wav.a1211wijvgl.a1111wbcdfhijvagkl.");
        againstLeaves("P1209h0wefjvabi.");
        againstLeaves("P0300l2wbvc.");
        againstLeaves("P0403l2wdvb.");
        againstLeaves("P0300h1wavc.");
        Check.changesNothing("sharpest", y -> y.sharpest());
        Check.finish();
    }

    private static void sharpest(String text, int want) {
        Check.onlyAnswers(text + ": sharpest", want, () -> Check.loaded(text), y -> y.sharpest());
    }

    /** "NONE if no pair of cases has unlike outcomes with any." */
    private static void none() {
        // One case is left.
        sharpest("P0302h0wavb.wbva.wavc.", Check.NONE);
        sharpest("P0304t0wavb.wbva.wavc.", Check.NONE);
        // A coin against none always sinks, and against another one, too.
        sharpest("P0300l0a2001", Check.NONE);
        sharpest("P1200l0a2001", Check.NONE);
        sharpest("P0301l2a1407wav.", Check.NONE);
    }

    /** "12 for none": a coin against none is behind all others that are as sharp. */
    private static void againstNone() {
        // A coin against none rises just if the right pan is false.
        sharpest("P0300l0a0120", 12);
        sharpest("P1200l0a0120", 12);
        againstLeaves("P0300t1a0112wvc.");
        againstLeaves("P0302h1a0110wav.");
        againstLeaves("P0301l2wbva.a0220wva.");
        againstLeaves("P0401h0a0218wav.");
        againstLeaves("P0300h0a0110wvb.wavc.");
        againstLeaves("P1207l0a0119wdekva.");
        againstLeaves("P1202h0wbefhilvajk.wdhiklvacfgj.wadfgjklvce.a0110wbghijvcdef.");
        againstLeaves("P1201h0wcdfglvabhjk.wacdiklvefghj.a0218wabhjklvcef.");
    }

    /** The weighing by which the most pairs are unlike, told by leaves(). */
    private static void againstLeaves(String text) {
        int coins = Check.loaded(text).about(0);
        int cases = Check.loaded(text).about(2);
        int most = 0;
        int found = Check.NONE;
        for (int a = 0; a < coins; a++) {
            Pan x = Check.loaded(text);
            for (int b = 0; b <= 12; b++) {
                if (b == a || b >= coins && b < 12) {
                    continue;
                }
                int pairs = cases * cases;
                for (int o = 0; o < 3; o++) {
                    int same = x.leaves(1 << a, b == 12 ? 0 : 1 << b, o);
                    pairs -= same * same;
                }
                if (pairs > most) {
                    most = pairs;
                    found = 100 * a + b;
                }
            }
        }
        sharpest(text, found);
    }
}
