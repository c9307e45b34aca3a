/** Promise 3: clearText. */
public final class Promise03ClearText {
    public static void main(String[] args) {
        for (int length = 0; length <= 120; length++) {
            Pan x = Check.withText("P".repeat(length));
            Check.due("clearText of " + length + " characters", x.clearText(), length);
            Check.due("clearText of the empty text", x.clearText(), 0);
            Check.due("the empty text", x.errorPosition(), 0);
            Check.due("the first character behind it", x.append('P'), 1);
            Check.due("what stood there is gone", x.errorPosition(), 1);
        }
        Pan x = Check.used();
        String before = Check.state(x);
        Check.due("clearText", x.clearText(), 16);
        Check.due("clearText leaves the state", Check.state(x), before);
        Check.due("clearText is no action", x.undo(), 6);
        Check.due("clearText leaves the save slots", x.restore(0), 33);
        Check.refuses("load of what is cleared", Check.STATE, x, y -> y.load());
        Pan full = Check.full();
        Check.due("clearText of a full text", full.clearText(), 120);
        Check.due("append behind it", full.append('P'), 1);
        Check.write(full, "0311t2");
        Check.due("the text behind it", full.load(), 0);
        Check.due("the case that it tells", Check.hiddenCase(full), 20);
        Check.finish();
    }
}
