/** Promise 3: clearText. */
public final class Promise03ClearText {
    public static void main(String[] args) {
        FalsePan x = Check.used();
        String before = Check.look(x);
        Check.due("clearText", x.clearText(), 7);
        Check.due("clearText again", x.clearText(), 0);
        Check.due("the empty text", x.errorPosition(), 0);
        Check.due("the state stays", Check.look(x), before);
        Check.due("clearText is no action", x.undo(), 6);
        Check.due("the first character behind it", x.append('P'), 1);
        Check.due("what stood there is gone", x.errorPosition(), 1);
        FalsePan full = Check.withText("P0900l0" + "a1010".repeat(22) + "wav");
        Check.due("clearText of a full text", full.clearText(), 120);
        Check.due("append behind it", full.append('P'), 1);
        Check.finish();
    }
}
