/** Terms, "Text". */
public final class Terms3Text {
    private static final String LETTERS = "abcdefghijkl";
    private static final String DIGITS = "0123456789";

    /** 120 characters: a table with 22 arms and a weighing. */
    private static final String LONGEST = "P0900l0" + "a1010".repeat(22) + "wv.";

    public static void main(String[] args) {
        head();
        weighings();
        arms();
        behindCommands();
        lengths();
        blanks();
        tooSoon();
        leftOut();
        fromLeftToRight();
        Check.finish();
    }

    private static void at(String text, int want) {
        Check.due("errorPosition of '" + text + "'", Check.withText(text).errorPosition(), want);
    }

    /** Behind this text, which ends too soon, just these characters are allowed. */
    private static void goesOn(String text, String allowed) {
        at(text, text.length());
        next(text, allowed);
    }

    /** Behind this text, which is a table, just these characters are allowed. */
    private static void mayEnd(String text, String allowed) {
        at(text, Check.NONE);
        next(text, allowed);
    }

    private static void next(String text, String allowed) {
        for (char c = 0; c <= 255; c++) {
            Pan x = Check.withText(text);
            x.append(c);
            int position = x.errorPosition();
            if (allowed.indexOf(c) < 0) {
                Check.due("errorPosition of '" + text + "' and the character " + (int) c, position, text.length());
                x.append('a');
                Check.due("the same with more behind it", x.errorPosition(), text.length());
            } else {
                Check.that("behind '" + text + "' the character " + c + " is allowed", position != text.length());
            }
        }
    }

    /** "P, two digits for coins (03 to 12), two for a false coin (00 to 11), l, h or t, and a digit (0 to 2)." */
    private static void head() {
        goesOn("", "P");
        goesOn("P", "01");
        goesOn("P0", "3456789");
        goesOn("P1", "012");
        for (String coins : new String[] {"03", "04", "08", "09", "10", "11", "12"}) {
            goesOn("P" + coins, "01");
        }
        goesOn("P030", DIGITS);
        goesOn("P031", "01");
        goesOn("P120", DIGITS);
        goesOn("P121", "01");
        for (String coin : new String[] {"00", "01", "05", "09", "10", "11"}) {
            goesOn("P09" + coin, "lht");
            goesOn("P03" + coin, "lht");
        }
        goesOn("P0300l", "012");
        goesOn("P0911h", "012");
        goesOn("P1211t", "012");
        for (int pan = 0; pan < 3; pan++) {
            mayEnd("P0300l" + pan, "wa");
            mayEnd("P1211h" + pan, "wa");
            mayEnd("P0911t" + pan, "wa");
        }
    }

    /** "w, letters of coins in the left pan, v, letters of coins in the right pan, and '.'": a to l, in their order. */
    private static void weighings() {
        String left = "P0300l0w";
        goesOn(left, LETTERS + "v");
        goesOn(left + "v", LETTERS + ".");
        goesOn(left + "av", LETTERS + ".");
        goesOn(left + "lv", LETTERS + ".");
        goesOn(left + LETTERS + "v", LETTERS + ".");
        for (int i = 0; i < LETTERS.length(); i++) {
            String later = LETTERS.substring(i + 1);
            goesOn(left + LETTERS.charAt(i), later + "v");
            goesOn(left + LETTERS.substring(0, i + 1), later + "v");
            goesOn(left + "v" + LETTERS.charAt(i), later + ".");
            goesOn(left + "v" + LETTERS.substring(0, i + 1), later + ".");
        }
        goesOn(left + "ac", "defghijklv");
        goesOn(left + "ackv", LETTERS + ".");
        goesOn(left + "ackvbd", "efghijkl.");
        mayEnd(left + "v.", "wa");
        mayEnd(left + "av.", "wa");
        mayEnd(left + "vl.", "wa");
        mayEnd(left + "lvl.", "wa");
        mayEnd(left + LETTERS + "v" + LETTERS + ".", "wa");
    }

    /** "a, and twice two digits (01 to 20)." */
    private static void arms() {
        String[] numbers = {"01", "09", "10", "19", "20"};
        String[] firsts = {"0", "1", "2"};
        String[] seconds = {"123456789", DIGITS, "0"};
        goesOn("P0300l0a", "012");
        for (int i = 0; i < firsts.length; i++) {
            goesOn("P0300l0a" + firsts[i], seconds[i]);
        }
        for (String number : numbers) {
            goesOn("P0300l0a" + number, "012");
            for (int i = 0; i < firsts.length; i++) {
                goesOn("P0300l0a" + number + firsts[i], seconds[i]);
            }
            for (String other : numbers) {
                mayEnd("P0300l0a" + number + other, "wa");
            }
        }
    }

    /** "And then any number of commands": none, one, and as many as there is room for, in any order. */
    private static void behindCommands() {
        mayEnd("P0300l0wv.wv.", "wa");
        mayEnd("P0300l0a0101a2020", "wa");
        mayEnd("P0300l0a0101wcvb.", "wa");
        goesOn("P0300l0wcvb.a", "012");
        goesOn("P0300l0wcvb.w", LETTERS + "v");
        goesOn("P0300l0a0101w", LETTERS + "v");
        goesOn("P0300l0wv.a2020wv.a1", "012" + "3456789");
        String most = "P1200h0" + "wv.".repeat(37);
        mayEnd(most, "wa");
        Pan x = Check.withText(most);
        Check.due("37 commands, all left out", x.load(), 37);
        String good = "P1200h0" + "wvl.".repeat(20) + "wv.".repeat(11);
        Check.due("31 commands, of which 11 are left out", Check.withText(good).load(), 11);
    }

    /** "A text buffer of at most 120 characters." */
    private static void lengths() {
        at("", 0);
        at(LONGEST, Check.NONE);
        at(LONGEST.substring(0, 119) + "v", 119);
        at(LONGEST.substring(0, 119) + (char) 0, 119);
        at(LONGEST.substring(0, 118) + "..", 118);
        at(LONGEST.substring(0, 117) + "wav", 120);
        at("P" + LONGEST.substring(0, 119), 1);
        at(" ".repeat(120), 0);
        at("P0900l0" + "a1010".repeat(22) + "a20", 120);
        Pan x = Check.withText(LONGEST);
        Check.refuses("a character behind the 120th", Check.STATE, x, y -> y.append('w'));
        Check.due("the text behind it", x.errorPosition(), Check.NONE);
        Check.due("its commands: both pans are empty", x.load(), 1);
    }

    /** "There are no blanks." */
    private static void blanks() {
        String text = "P0902h1wabvcd.a0910wvl.";
        for (int i = 0; i <= text.length(); i++) {
            at(text.substring(0, i) + " " + text.substring(i), i);
        }
    }

    /** "If the text ends too soon, it is the length of the text." */
    private static void tooSoon() {
        String text = "P1211t2wacvbl.a0120wv.a2001";
        String tables = " 7 14 19 22 27 ";
        for (int length = 0; length <= text.length(); length++) {
            boolean table = tables.contains(" " + length + " ");
            at(text.substring(0, length), table ? Check.NONE : length);
            if (!table) {
                Check.refuses("load of '" + text.substring(0, length) + "'", Check.STATE,
                        Check.withText(text.substring(0, length)), y -> y.load());
            }
        }
        for (int length = 0; length <= 120; length++) {
            int behind = length - 7;
            boolean table = behind >= 0 && (behind % 5 == 0 || length == 120);
            at(LONGEST.substring(0, length), table ? Check.NONE : length);
        }
    }

    /** "Commands that would throw an exception are left out." */
    private static void leftOut() {
        leavesOut("P0300l0", 0, 0);
        leavesOut("P0300l0wcv.", 0, 1);
        leavesOut("P0300l0wvc.", 0, 1);
        leavesOut("P0300l0wv.", 1, 0);
        leavesOut("P0300l0wdv.", 1, 0);
        leavesOut("P0300l0wvd.", 1, 0);
        leavesOut("P0300l0wabcvd.", 1, 0);
        leavesOut("P0300l0wlva.", 1, 0);
        leavesOut("P0300l0wava.", 1, 0);
        leavesOut("P0300l0wabvbc.", 1, 0);
        leavesOut("P1200l0wlvk.", 0, 1);
        leavesOut("P1100l0wlvk.", 1, 0);
        leavesOut("P1100l0wkva.", 0, 1);
        leavesOut("P1200l0wabcdefvghijkl.", 0, 1);
        leavesOut("P0300l0a0101a2020", 0, 0);
        leavesOut("P0300l0wv.wava.wavb.wdv.wcva.", 3, 2);
        leavesOut("P0300l0" + "wav.".repeat(20), 0, 20);
        leavesOut("P0300l0" + "wav.".repeat(21), 1, 20);
        leavesOut("P0300l0" + "wav.".repeat(20) + "wv.wdv.a0203", 2, 20);
        // Behind 20 weighings arms are still moved.
        Pan x = Check.loaded("P0300l0" + "wav.".repeat(22) + "a0203");
        Check.due("the left arm behind 20 weighings", x.about(4), 2);
        Check.due("the right arm behind 20 weighings", x.about(5), 3);
    }

    private static void leavesOut(String text, int commands, int weighings) {
        Pan x = Check.withText(text);
        Check.due("load of '" + text + "'", x.load(), commands);
        Check.due("weighings behind '" + text + "'", x.about(3), weighings);
    }

    /** "The text is read from left to right." */
    private static void fromLeftToRight() {
        Pan x = Check.loaded("P0402h0wavb.a0110wcvd.a1020wabvcd.a1111");
        int[][] want = {{1, 2, 0, 10, 10}, {4, 8, 2, 1, 10}, {3, 12, 2, 10, 20}};
        Check.due("weighings of the text", x.about(3), want.length);
        for (int i = 0; i < want.length; i++) {
            for (int what = 0; what < want[i].length; what++) {
                Check.due("of the text, weighing(" + i + ", " + what + ")", x.weighing(i, what), want[i][what]);
            }
        }
        Check.due("the left arm at the end", x.about(4), 11);
        Check.due("the right arm at the end", x.about(5), 11);
    }
}
