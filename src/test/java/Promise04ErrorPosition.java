/** Promise 4: errorPosition. */
public final class Promise04ErrorPosition {
    public static void main(String[] args) {
        head();
        weighings();
        arms();
        lengths();
        Check.onlyAnswers("errorPosition of a table", Check.NONE, Check::used, y -> y.errorPosition());
        Check.onlyAnswers("errorPosition of 120 characters", Check.NONE, Check::full, y -> y.errorPosition());
        Check.onlyAnswers("errorPosition of the empty text", 0, Pan::new, y -> y.errorPosition());
        Check.onlyAnswers("errorPosition of no table", 3, () -> Check.withText("P09x"), y -> y.errorPosition());
        Check.finish();
    }

    private static void at(String text, int want) {
        Check.due("errorPosition of '" + text + "'", Check.withText(text).errorPosition(), want);
    }

    /** The empty text, one of 120 characters, and what was emptied or goes on behind an error. */
    private static void lengths() {
        String most = "P0900l0wabva." + "a1010".repeat(20) + "wav.";
        at("", 0);
        at(most, Check.NONE);
        at(most + "wv.", Check.NONE);
        at(most + "wvv", 119);
        at(most + "w.v", 118);
        at(most + "Pv.", 117);
        at(most + "wva", 120);
        at("x" + most + "wv", 0);
        Pan x = Check.withText("P0x");
        Check.due("an error", x.errorPosition(), 2);
        Check.write(x, "00l0");
        Check.due("an error, with more behind it", x.errorPosition(), 2);
        x.clearText();
        Check.due("emptied", x.errorPosition(), 0);
        Check.write(x, "P0300l");
        Check.due("written anew", x.errorPosition(), 6);
        x.append('0');
        Check.due("and complete", x.errorPosition(), Check.NONE);
    }

    private static void head() {
        at("", 0);
        at("p", 0);
        at(" P0900l0", 0);
        at("P", 1);
        at("P0", 2);
        at("P1", 2);
        at("P2", 1);
        at("P9", 1);
        at("P/", 1);
        at("P:", 1);
        at("P00", 2);
        at("P02", 2);
        at("P03", 3);
        at("P09", 3);
        at("P10", 3);
        at("P12", 3);
        at("P13", 2);
        at("P0x", 2);
        at("P090", 4);
        at("P091", 4);
        at("P092", 3);
        at("P0900", 5);
        at("P0909", 5);
        at("P0910", 5);
        at("P0911", 5);
        at("P0912", 4);
        at("P0900l", 6);
        at("P0900h", 6);
        at("P0900t", 6);
        at("P0900L", 5);
        at("P09000", 5);
        at("P0900l0", -1);
        at("P0900h1", -1);
        at("P0900t2", -1);
        at("P0311l0", -1);
        at("P1211h2", -1);
        at("P0900l3", 6);
        at("P0900l00", 7);
        at("P0900l0 ", 7);
        at("P0900l0P", 7);
        at("P0900l0v", 7);
        at("P0900l0b", 7);
        at("P0900l0" + (char) 255, 7);
    }

    private static void weighings() {
        at("P0900l0w", 8);
        at("P0900l0wv", 9);
        at("P0900l0wv.", -1);
        at("P0900l0wa", 9);
        at("P0900l0wav", 10);
        at("P0900l0wavb", 11);
        at("P0900l0wavb.", -1);
        at("P0900l0wva.", -1);
        at("P0900l0wava.", -1);
        at("P0900l0wabcdefghijklvabcdefghijkl.", -1);
        at("P0300l0wlvk.", -1);
        at("P0900l0wm", 8);
        at("P0900l0wvm", 9);
        at("P0900l0waav.", 9);
        at("P0900l0wbav.", 9);
        at("P0900l0wavbb.", 11);
        at("P0900l0wavcb.", 11);
        at("P0900l0wcva.", -1);
        at("P0900l0w.", 8);
        at("P0900l0wa.", 9);
        at("P0900l0wavv.", 10);
        at("P0900l0wavwb.", 10);
        at("P0900l0wavb.wcvd.", -1);
        at("P0900l0wavb..", 12);
        at("P0900l0wAvb.", 8);
    }

    private static void arms() {
        at("P0900l0a", 8);
        at("P0900l0a0", 9);
        at("P0900l0a00", 9);
        at("P0900l0a01", 10);
        at("P0900l0a2", 9);
        at("P0900l0a20", 10);
        at("P0900l0a21", 9);
        at("P0900l0a3", 8);
        at("P0900l0a19", 10);
        at("P0900l0a010", 11);
        at("P0900l0a0100", 11);
        at("P0900l0a0101", -1);
        at("P0900l0a2020", -1);
        at("P0900l0a2021", 11);
        at("P0900l0a203", 10);
        at("P0900l0a1010a0920wav.", -1);
        at("P0900l0a1010.", 12);
    }
}
