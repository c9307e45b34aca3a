import java.util.ArrayList;
import java.util.List;

/** What the tests share: named checks, and a tour that tells all of an object. */
final class Check {
    interface Maker { FalsePan make(); }
    interface On { long answer(FalsePan x); }

    private static int passed = 0;
    private static int failed = 0;

    private Check() { }

    static void that(String what, boolean holds) {
        if (holds) {
            passed++;
        } else {
            failed++;
            System.out.println("FAILED: " + what);
        }
    }

    static void due(String what, long got, long want) {
        that(what + " answered " + got + ", due is " + want, got == want);
    }

    static void due(String what, String got, String want) {
        that(what + " answered " + got + ", due is " + want, got.equals(want));
    }

    /** The call throws just this exception, and changes nothing. */
    static void refused(String what, Class<?> due, Maker maker, On call) {
        FalsePan x = maker.make();
        due(what, answer(x, call), "throws " + due.getSimpleName());
        due(what + ": what it left behind", tour(x), tour(maker.make()));
    }

    /** The call answers, and changes nothing. */
    static void onlyAnswers(String what, long want, Maker maker, On call) {
        FalsePan x = maker.make();
        due(what, answer(x, call), "" + want);
        due(what + ", called again", answer(x, call), "" + want);
        due(what + ": what it left behind", tour(x), tour(maker.make()));
    }

    static String answer(FalsePan x, On call) {
        try {
            return "" + call.answer(x);
        } catch (RuntimeException e) {
            return "throws " + e.getClass().getSimpleName();
        }
    }

    static FalsePan withText(String text) {
        FalsePan x = new FalsePan();
        write(x, text);
        return x;
    }

    static FalsePan loaded(String text) {
        FalsePan x = withText(text);
        x.load();
        return x;
    }

    static void write(FalsePan x, String text) {
        for (int i = 0; i < text.length(); i++) {
            x.append(text.charAt(i));
        }
    }

    /** A table on which something of everything has happened. */
    static FalsePan used() {
        FalsePan x = withText("P0500l0");
        x.hide(5, 22);
        x.save(0);
        x.weigh(1, 2);
        x.arms(10, 11);
        x.accuse(3, true);
        x.accuse(2, true);
        x.weigh(5, 10);
        x.weigh(5, 10);
        return x;
    }

    /** All that can be asked of the state without changing it. */
    static String look(FalsePan x) {
        StringBuilder told = new StringBuilder();
        for (int i = 0; i <= 8; i++) {
            told.append(x.about(i)).append(' ');
        }
        for (int i = 0; i < x.about(0); i++) {
            told.append(x.coin(i)).append(' ');
        }
        told.append(x.pans()).append(" left");
        for (int i = 0; i < x.about(1); i++) {
            told.append(x.isLeft(i));
        }
        for (int i = 0; i < x.about(3); i++) {
            told.append(" weighing");
            for (int k = 0; k < 6; k++) {
                told.append(' ').append(x.weighing(i, k));
            }
        }
        return told.toString();
    }

    /** All that can be asked of an object, behind which it is used up. */
    static String tour(FalsePan x) {
        List<String> told = new ArrayList<>();
        told.add(look(x));
        told.add("text " + x.errorPosition());
        while (true) {
            String undone = answer(x, y -> y.undo());
            told.add("undo " + undone + " " + x.about(2) + " " + x.about(3) + " " + x.about(4)
                    + " " + x.about(7) + " " + x.about(8));
            if (undone.startsWith("throws")) {
                break;
            }
        }
        told.add("slot 0 " + answer(x, y -> y.restore(0)) + " " + x.about(3));
        told.add("slot 1 " + answer(x, y -> y.restore(1)) + " " + x.about(3));
        told.add("text " + x.clearText());
        return told.toString();
    }

    static void finish() {
        System.out.println(passed + " checks hold, " + failed + " do not");
        if (failed != 0 || passed == 0) {
            System.exit(1);
        }
    }
}
