/** Promise 8: pans. */
public final class Promise08Pans {
    public static void main(String[] args) {
        pans("nothing weighed", "P0500l0", 7);
        // A coin may make up for a pan, but not when they are exchanged.
        pans("level", "P0500l0wcvd.", 7);
        pans("level both ways", "P0500l0wcvd.wdvc.", 1);
        pans("all are true, and nothing else may be", "P0304l0wavb.wbva.wavc.", 1);
        // The same pan sinks both ways: it is false.
        pans("the left pan is false", "P0500t1wavb.wbva.", 2);
        pans("the right pan is false", "P0500t2wavb.wbva.", 4);
        pans("the left pan, or none", "P0500h0wavb.", 3);
        pans("the right pan, or none", "P0500l0wavb.", 5);
        // b and c are level with a and d, but rise against a on an arm twice
        // as long: a coin makes up for a pan, which is false.
        pans("the left pan, or the right one", "P0402h2wbcvad.a1020wbcva.", 6);
        pans("3 coins", "P0300l0", 7);
        pans("12 coins", "P1200l0", 7);
        pans("20 weighings", "P0500t1" + "wavb.wbva.".repeat(10), 2);
        Pan x = Check.loaded("P0500t1wavb.wbva.");
        x.forget();
        Check.due("the second one forgotten: pans", x.pans(), 3);
        x.undo();
        Check.due("and taken back: pans", x.pans(), 2);
        x.hide(5, 0);
        Check.due("hidden anew: pans", x.pans(), 7);
        Check.changesNothing("pans", y -> y.pans());
        Check.finish();
    }

    private static void pans(String when, String text, int want) {
        Check.onlyAnswers(when + ": pans", want, () -> Check.loaded(text), y -> y.pans());
    }
}
