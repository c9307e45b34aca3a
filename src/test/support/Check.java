/** What the tests share: named checks, tables to check on, and views that tell all of an object. */
final class Check {
    interface Maker { Pan make(); }
    interface On { long answer(Pan x); }
    interface View { String of(Pan x); }

    /** The exceptions of the document. */
    static final Class<?> INDEX = IndexOutOfBoundsException.class;
    static final Class<?> ARGUMENT = IllegalArgumentException.class;
    static final Class<?> STATE = IllegalStateException.class;

    static final int NONE = FalsePan.NONE;

    /** Numbers beyond every range of the document but that of the seeds. */
    static final int[] FAR = {Integer.MIN_VALUE, Integer.MIN_VALUE + 1, -1000, 1000, 1 << 30,
        Integer.MAX_VALUE - 1, Integer.MAX_VALUE};

    private static final int LONGEST_SECONDS = 120;
    private static final int MOST_FAILURES = 20;
    private static final View[] VIEWS = {Check::state, Check::past, y -> slot(y, 0), y -> slot(y, 1), Check::text};
    private static final String[] VIEW_NAMES = {"the state", "the remembered states", "save slot 0",
        "save slot 1", "the text"};

    private static int passed = 0;
    private static int failed = 0;

    static {
        watch();
    }

    private Check() { }

    /** A call that does not end is a failure, too. */
    private static void watch() {
        Thread watcher = new Thread(() -> {
            try {
                Thread.sleep(1000L * LONGEST_SECONDS);
            } catch (InterruptedException e) {
                return;
            }
            System.out.println("FAILED: a call does not end");
            Runtime.getRuntime().halt(1);
        });
        watcher.setDaemon(true);
        watcher.start();
    }

    // ---- checks

    static void that(String what, boolean holds) {
        if (holds) {
            passed++;
        } else {
            failed++;
            System.out.println("FAILED: " + what);
            if (failed == MOST_FAILURES) {
                System.out.println("there may be more");
                finish();
            }
        }
    }

    static void due(String what, long got, long want) {
        if (got == want) {
            passed++;
        } else {
            that(what + " answered " + got + ", due is " + want, false);
        }
    }

    static void due(String what, String got, String want) {
        if (got.equals(want)) {
            passed++;
        } else {
            that(what + " answered " + got + ", due is " + want, false);
        }
    }

    /** The call throws just this exception. */
    static void refuses(String what, Class<?> due, Pan x, On call) {
        due(what, answer(x, call), thrown(due));
    }

    /** The call throws just this exception, and changes nothing. */
    static void refused(String what, Class<?> due, Maker maker, On call) {
        refuses(what, due, maker.make(), call);
        unchanged(what, maker, call);
    }

    /** The call throws just this exception, and changes nothing, on each of the tables below. */
    static void refused(String what, Class<?> due, On call) {
        refused(what + ", on a used table", due, Check::used, call);
        refused(what + ", on a full table", due, Check::full, call);
    }

    /** The call answers so, again if it is called again, and changes nothing. */
    static void onlyAnswers(String what, long want, Maker maker, On call) {
        Pan x = maker.make();
        due(what, answer(x, call), "" + want);
        due(what + ", called again", answer(x, call), "" + want);
        unchanged(what, maker, call);
    }

    /** The call answers something on each of the tables below, and changes nothing. */
    static void changesNothing(String what, On call) {
        onlyAnswers(what + ", on a used table", call.answer(used()), Check::used, call);
        onlyAnswers(what + ", on a full table", call.answer(full()), Check::full, call);
    }

    /** Each view of an object is as if the call had not been. */
    private static void unchanged(String what, Maker maker, On call) {
        for (int i = 0; i < VIEWS.length; i++) {
            Pan x = maker.make();
            answer(x, call);
            due(what + ": " + VIEW_NAMES[i] + " behind it", VIEWS[i].of(x), VIEWS[i].of(maker.make()));
        }
    }

    static String answer(Pan x, On call) {
        try {
            return "" + call.answer(x);
        } catch (RuntimeException e) {
            return thrown(e.getClass());
        }
    }

    private static String thrown(Class<?> exception) { return "throws " + exception.getSimpleName(); }

    static void finish() {
        System.out.println(passed + " checks hold, " + failed + " do not");
        if (failed != 0 || passed == 0) {
            System.exit(1);
        }
    }

    // ---- tables

    static Pan withText(String text) {
        Pan x = new Pan();
        write(x, text);
        return x;
    }

    static Pan loaded(String text) {
        Pan x = withText(text);
        x.load();
        return x;
    }

    static void write(Pan x, String text) {
        for (int i = 0; i < text.length(); i++) {
            x.append(text.charAt(i));
        }
    }

    static Pan hidden(int coins, int k) {
        Pan x = new Pan();
        x.hide(coins, k);
        return x;
    }

    /**
     * A table on which something of everything has happened: 5 coins, 3
     * weighings, 7 states remembered, the save slot 1 empty; the coin 3 is heavy,
     * the left pan false.
     */
    static Pan used() {
        Pan x = withText("P0401l2a0910wav.");
        x.hide(5, 22);
        x.save(0);
        x.weigh(1, 2);
        x.arms(10, 11);
        x.accuse(3, true);
        x.accuse(2, true);
        x.weigh(5, 10);
        x.weigh(5, 10);
        return x;
    }

    /**
     * A table with as much of everything as there may be, but the coins, which
     * are 5: 120 characters, 20 weighings, 14 states remembered, and more
     * forgotten, both save slots in use; the coin 1 is light, the right pan false.
     */
    static Pan full() {
        Pan x = withText("P1204h0" + "a0120".repeat(22) + "wv.");
        x.hide(12, 70);
        x.weigh(15, 240);
        x.save(1);
        x.hide(5, 8);
        x.arms(20, 19);
        x.save(0);
        for (int i = 0; i < 20; i++) {
            if (i == 17) {
                x.arms(9, 10);
                x.accusePan(2);
            }
            x.weigh(1 << i % 5, 1 << (i + 1 + i / 5) % 5);
        }
        return x;
    }

    // ---- views; each but the first uses the object up

    /** All that can be asked of the state; changes nothing. */
    static String state(Pan x) {
        StringBuilder told = new StringBuilder();
        int[] numbers = new int[9];
        for (int i = 0; i < numbers.length; i++) {
            numbers[i] = x.about(i);
            told.append(numbers[i]).append(' ');
        }
        told.append("coins");
        for (int c = 0; c < numbers[0]; c++) {
            told.append(' ').append(x.coin(c));
        }
        told.append(" pans ").append(x.pans()).append(" left ");
        for (int k = 0; k < numbers[1]; k++) {
            told.append(x.isLeft(k));
        }
        for (int i = 0; i < numbers[3]; i++) {
            told.append(" weighing");
            for (int what = 0; what < 6; what++) {
                told.append(' ').append(x.weighing(i, what));
            }
        }
        return told.append(" hidden ").append(hiddenCase(x)).toString();
    }

    /** The number of the hidden case, found by scripts, which change nothing. */
    static int hiddenCase(Pan x) {
        int v = 2 * x.about(0);
        for (int i = 2 * x.about(0) - 1; i >= 0; i--) {
            if (x.runScript(1, 30000 + 100 * (i / 2) + i % 2) == NONE) {
                v = i;
            }
        }
        int pan = 0;
        while (pan < 3 && x.runScript(1, 40000 + 1000 * pan) != NONE) {
            pan++;
        }
        return 3 * v + pan;
    }

    /** What about() tells of a state, in a row. */
    static String brief(Pan x) {
        StringBuilder told = new StringBuilder();
        for (int i = 0; i <= 8; i++) {
            told.append(x.about(i)).append(' ');
        }
        return told.toString();
    }

    private static String past(Pan x) {
        StringBuilder told = new StringBuilder();
        String undone;
        do {
            undone = answer(x, y -> y.undo());
            told.append(undone).append(": ").append(brief(x)).append(x.pans()).append("; ");
        } while (!undone.startsWith("throws"));
        return told.toString();
    }

    private static String slot(Pan x, int slot) { return answer(x, y -> y.restore(slot)) + ": " + state(x); }

    private static String text(Pan x) {
        String told = x.errorPosition() + " " + answer(x, y -> y.load()) + ": " + state(x);
        told += " " + answer(x, y -> y.append('w')) + " " + x.errorPosition();
        return told + " " + x.clearText();
    }
}
