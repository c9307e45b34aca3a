import java.util.Random;

/** Runs of mixed calls, each answered by FalsePan and by the plain Model alike. */
public final class ModelRuns {
    private interface Call { long answer(); }

    private final FalsePan x = new FalsePan();
    private final Model m = new Model();
    private final Random random;
    private final int run;
    private int coins = 9;
    private int calls = 0;

    private ModelRuns(int run) {
        this.run = run;
        random = new Random(run);
    }

    public static void main(String[] args) {
        for (int run = 0; run < 600; run++) {
            new ModelRuns(run).go();
        }
        Check.finish();
    }

    private static String told(Call call) {
        try {
            return "" + call.answer();
        } catch (RuntimeException e) {
            return "throws " + e.getClass().getSimpleName();
        }
    }

    private void same(String what, Call got, Call want) {
        calls++;
        Check.due("run " + run + ", call " + calls + ": " + what, told(got), told(want));
    }

    private int below(int n) { return random.nextInt(n); }

    /** A number in or just about a range, seldom one far from it. */
    private int about(int least, int most) {
        if (below(40) == 0) {
            int[] far = {Integer.MIN_VALUE, Integer.MAX_VALUE, -1, 1 << 30, least - 1, most + 1, 64, -64};
            return far[below(far.length)];
        }
        return least + below(most - least + 1);
    }

    private int set(int not) {
        int set = below(3) == 0 ? below(4096) : 1 << below(12) | 1 << below(12);
        if (below(12) > 0) {
            set &= (1 << coins) - 1 & ~not;
        }
        return below(60) == 0 ? about(0, 8191) : set;
    }

    private void go() {
        // Half of the runs have few coins, so that the cases soon become few.
        boolean many = below(2) == 0;
        while (calls < 500) {
            int sort = below(23);
            if (sort < 3) {
                table();
            } else if (sort < 12) {
                act(many);
            } else if (sort < 20) {
                look();
            } else if (sort < 22) {
                script();
            } else {
                slots();
            }
        }
    }

    private void table() {
        if (below(6) > 0 || calls > 380) {
            int c = below(3) == 0 ? about(0, 255) : "P09l0wav.a10t".charAt(below(13));
            same("append " + c, () -> x.append(c), () -> m.append(c));
            same("errorPosition", () -> x.errorPosition(), () -> m.errorPosition());
            same("load", () -> x.load(), () -> m.load());
            coins = m.about(0);
            return;
        }
        String text = text();
        same("clearText", () -> x.clearText(), () -> m.clearText());
        for (int i = 0; i < text.length(); i++) {
            char c = text.charAt(i);
            same("append " + c, () -> x.append(c), () -> m.append(c));
        }
        same("errorPosition of " + text, () -> x.errorPosition(), () -> m.errorPosition());
        same("load " + text, () -> x.load(), () -> m.load());
        coins = m.about(0);
    }

    private String two(int n) { return n < 10 ? "0" + n : "" + n; }

    private String letters(int most) {
        StringBuilder letters = new StringBuilder();
        for (int c = 0; c < most; c++) {
            if (below(3) == 0) {
                letters.append((char) ('a' + c));
            }
        }
        return letters.toString();
    }

    private String text() {
        int n = 3 + below(10);
        StringBuilder text = new StringBuilder("P" + two(n) + two(below(12)) + "lht".charAt(below(3)) + below(3));
        int commands = below(8);
        boolean tiny = below(5) == 0;
        for (int i = 0; i < (tiny ? 27 : commands) && text.length() < 105; i++) {
            if (tiny) {
                text.append("w").append((char) ('a' + below(4))).append("v.");
            } else if (below(3) == 0) {
                text.append("a" + two(1 + below(20)) + two(1 + below(20)));
            } else {
                text.append("w" + letters(n) + "v" + letters(below(4) == 0 ? 12 : n) + ".");
            }
        }
        if (below(4) == 0) {
            text.setCharAt(below(text.length()), "P0123479lhtwavb. z".charAt(below(18)));
        }
        if (below(6) == 0) {
            text.setLength(below(text.length() + 1));
        }
        return text.length() > 120 ? text.substring(0, 120) : text.toString();
    }

    private void act(boolean many) {
        switch (below(16)) {
            case 0:
                if (below(4) == 0) {
                    int n = many ? about(3, 12) : about(3, 5);
                    int k = about(0, 3 * (2 * (n & 15) + 1) - 1);
                    same("hide " + n + " " + k, () -> x.hide(n, k), () -> m.hide(n, k));
                    coins = m.about(0);
                }
                break;
            case 1: case 2: {
                int a = below(2) == 0 ? about(9, 11) : about(1, 20);
                int b = below(2) == 0 ? about(9, 11) : about(1, 20);
                same("arms " + a + " " + b, () -> x.arms(a, b), () -> m.arms(a, b));
                break;
            }
            case 3: {
                int c = about(0, coins - 1);
                boolean heavy = below(2) == 0;
                same("accuse " + c + " " + heavy, () -> x.accuse(c, heavy), () -> m.accuse(c, heavy));
                break;
            }
            case 4: {
                int p = about(0, 2);
                same("accusePan " + p, () -> x.accusePan(p), () -> m.accusePan(p));
                break;
            }
            case 5:
                same("forget", () -> x.forget(), () -> m.forget());
                break;
            case 6: case 7:
                same("undo", () -> x.undo(), () -> m.undo());
                coins = m.about(0);
                break;
            default: {
                int a = set(0);
                int b = below(4) == 0 ? 0 : set(a);
                same("weigh " + a + " " + b, () -> x.weigh(a, b), () -> m.weigh(a, b));
            }
        }
    }

    private void look() {
        int a = set(0);
        int b = below(4) == 0 ? 0 : set(a);
        int what = about(0, 8);
        switch (below(12)) {
            case 0: case 1:
                same("about " + what, () -> x.about(what), () -> m.about(what));
                break;
            case 2:
                int c = about(0, coins - 1);
                same("coin " + c, () -> x.coin(c), () -> m.coin(c));
                break;
            case 3:
                same("pans", () -> x.pans(), () -> m.pans());
                break;
            case 4: case 5:
                int k = about(0, 6 * coins + 2);
                same("isLeft " + k, () -> x.isLeft(k), () -> m.isLeft(k));
                break;
            case 6: case 7:
                int i = about(0, Math.max(0, m.about(3) - 1));
                int w = about(0, 5);
                same("weighing " + i + " " + w, () -> x.weighing(i, w), () -> m.weighing(i, w));
                break;
            case 8:
                int o = about(0, 2);
                same("leaves " + a + " " + b + " " + o, () -> x.leaves(a, b, o), () -> m.leaves(a, b, o));
                break;
            case 9:
                int j = about(1, below(4) == 0 ? 2 : 1);
                int h = about(0, 2);
                same("best " + j + " " + h, () -> x.best(j, h), () -> m.best(j, h));
                break;
            case 10:
                same("sharpest", () -> x.sharpest(), () -> m.sharpest());
                break;
            default:
                same("needs", () -> x.needs(), () -> m.needs());
                same("bestArms " + a + " " + b, () -> x.bestArms(a, b), () -> m.bestArms(a, b));
        }
    }

    private String group() {
        String coin = two(about(0, 11) & 63);
        switch (below(12)) {
            case 0: case 1: case 2: return "1" + coin + (below(3) == 0 ? "99" : two(below(coins + 1)));
            case 3: return "2" + two(below(22)) + two(below(22));
            case 4: return "3" + coin + "0" + below(2);
            case 5: return "4" + below(4) + "000";
            case 6: return "50000";
            case 7: return "600" + two(below(80));
            case 8: return "7" + coin + "0" + (below(2) == 0 ? 7 : below(8));
            case 9: return "8000" + (below(2) == 0 ? 7 : below(8));
            case 10: return "9000" + below(6);
            default: return two(below(100)) + below(10) + two(below(100));
        }
    }

    private void script() {
        if (below(2) == 0) {
            long seed = random.nextLong();
            int turns = about(1, 60);
            same("simulate " + seed + " " + turns, () -> x.simulate(seed, turns), () -> m.simulate(seed, turns));
            return;
        }
        int n = about(1, 3);
        StringBuilder digits = new StringBuilder();
        for (int i = 0; i < Math.min(3, Math.max(1, n)); i++) {
            digits.append(group());
        }
        if (below(20) == 0) {
            digits.append(below(10));
        }
        if (below(10) == 0) {
            digits.setCharAt(below(digits.length()), (char) ('0' + below(10)));
        }
        long script = below(60) == 0 ? random.nextLong() : Long.parseLong(digits.toString());
        same("runScript " + n + " " + script, () -> x.runScript(n, script), () -> m.runScript(n, script));
    }

    private void slots() {
        int slot = about(0, 1);
        if (below(3) > 0) {
            same("save " + slot, () -> x.save(slot), () -> m.save(slot));
        } else {
            same("restore " + slot, () -> x.restore(slot), () -> m.restore(slot));
            coins = m.about(0);
        }
    }
}
