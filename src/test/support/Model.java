import java.util.ArrayDeque;
import java.util.ArrayList;
import java.util.Deque;
import java.util.List;
import java.util.regex.Matcher;
import java.util.regex.Pattern;

/** The document once more, written to be plain and slow, to be compared with FalsePan. */
final class Model {
    private static final Pattern TABLE = Pattern.compile(
            "P(0[3-9]|1[0-2])(0[0-9]|1[01])[lht][0-2]"
            + "(wa?b?c?d?e?f?g?h?i?j?k?l?va?b?c?d?e?f?g?h?i?j?k?l?\\.|a(0[1-9]|1[0-9]|20)(0[1-9]|1[0-9]|20))*");

    private record Weighing(int left, int right, int outcome, int leftArm, int rightArm) { }

    private record State(int coins, int hidden, int leftArm, int rightArm, int rightly, int wrongly,
                         List<Weighing> weighings) { }

    private static final State NEW = new State(9, 0, 10, 10, 0, 0, List.of());

    private State s = NEW;
    private Deque<State> remembered = new ArrayDeque<>();
    private final State[] slots = new State[2];
    private final StringBuilder text = new StringBuilder();

    // ---- cases

    private static int cases(int coins) { return 3 * (2 * coins + 1); }

    private static int weight(int set, int k, int coins, boolean falsePan) {
        int v = k / 3;
        int weight = falsePan ? 1 : 0;
        for (int c = 0; c < coins; c++) {
            if ((set >> c & 1) == 1) {
                weight += v == 2 * c ? 9 : v == 2 * c + 1 ? 11 : 10;
            }
        }
        return weight;
    }

    private static int outcome(int left, int right, int leftArm, int rightArm, int k, int coins) {
        int l = leftArm * weight(left, k, coins, k % 3 == 1);
        int r = rightArm * weight(right, k, coins, k % 3 == 2);
        return l > r ? 1 : l < r ? 2 : 0;
    }

    private static List<Integer> left(State s, int weighings) {
        List<Integer> left = new ArrayList<>();
        for (int k = 0; k < cases(s.coins); k++) {
            boolean is = true;
            for (Weighing w : s.weighings.subList(0, weighings)) {
                is &= outcome(w.left, w.right, w.leftArm, w.rightArm, k, s.coins) == w.outcome;
            }
            if (is) {
                left.add(k);
            }
        }
        return left;
    }

    private static List<Integer> left(State s) { return left(s, s.weighings.size()); }

    private int[] split(List<Integer> cases, int left, int right, int leftArm, int rightArm) {
        int[] n = new int[3];
        for (int k : cases) {
            n[outcome(left, right, leftArm, rightArm, k, s.coins)]++;
        }
        return n;
    }

    private static int worst(int[] n) { return Math.max(n[0], Math.max(n[1], n[2])); }

    // ---- text

    int append(int c) {
        if (c < 0 || c > 255) throw new IllegalArgumentException();
        if (text.length() == 120) throw new IllegalStateException();
        text.append((char) c);
        return text.length();
    }

    int clearText() {
        int was = text.length();
        text.setLength(0);
        return was;
    }

    int errorPosition() {
        for (int i = 0; i < text.length(); i++) {
            Matcher m = TABLE.matcher(text.substring(0, i + 1));
            if (!m.matches() && !m.hitEnd()) return i;
        }
        return TABLE.matcher(text).matches() ? -1 : text.length();
    }

    int load() {
        if (errorPosition() != -1) throw new IllegalStateException();
        s = NEW;
        slots[0] = null;
        slots[1] = null;
        int coins = Integer.parseInt(text.substring(1, 3));
        int coin = Integer.parseInt(text.substring(3, 5));
        char sort = text.charAt(5);
        int v = sort == 't' || coin >= coins ? 2 * coins : 2 * coin + (sort == 'h' ? 1 : 0);
        hide(coins, 3 * v + text.charAt(6) - '0');
        int leftOut = 0;
        Matcher m = Pattern.compile("w([a-l]*)v([a-l]*)\\.|a(\\d\\d)(\\d\\d)").matcher(text.substring(7));
        while (m.find()) {
            try {
                if (m.group(3) != null) {
                    arms(Integer.parseInt(m.group(3)), Integer.parseInt(m.group(4)));
                } else {
                    weigh(set(m.group(1)), set(m.group(2)));
                }
            } catch (RuntimeException e) {
                leftOut++;
            }
        }
        remembered.clear();
        return leftOut;
    }

    private static int set(String letters) {
        int set = 0;
        for (char c : letters.toCharArray()) set |= 1 << c - 'a';
        return set;
    }

    // ---- what there is

    int about(int what) {
        switch (what) {
            case 0: return s.coins;
            case 1: return cases(s.coins);
            case 2: return left(s).size();
            case 3: return s.weighings.size();
            case 4: return s.leftArm;
            case 5: return s.rightArm;
            case 6:
                int idle = 0;
                for (int i = 1; i <= s.weighings.size(); i++) {
                    if (left(s, i).size() == left(s, i - 1).size()) idle++;
                }
                return idle;
            case 7: return s.rightly;
            case 8: return s.wrongly;
            default: throw new IllegalArgumentException();
        }
    }

    int coin(int c) {
        if (c < 0 || c >= s.coins) throw new IndexOutOfBoundsException();
        int may = 0;
        for (int k : left(s)) {
            may |= k / 3 == 2 * c ? 1 : k / 3 == 2 * c + 1 ? 2 : 4;
        }
        return may;
    }

    int pans() {
        int may = 0;
        for (int k : left(s)) may |= 1 << k % 3;
        return may;
    }

    int isLeft(int k) {
        if (k < 0 || k >= cases(s.coins)) throw new IndexOutOfBoundsException();
        return left(s).contains(k) ? 1 : 0;
    }

    int weighing(int i, int what) {
        if (i < 0 || i >= s.weighings.size()) throw new IndexOutOfBoundsException();
        Weighing w = s.weighings.get(i);
        switch (what) {
            case 0: return w.left;
            case 1: return w.right;
            case 2: return w.outcome;
            case 3: return w.leftArm;
            case 4: return w.rightArm;
            case 5: return left(s, i + 1).size();
            default: throw new IllegalArgumentException();
        }
    }

    // ---- actions

    private void become(State next) {
        remembered.addLast(s);
        if (remembered.size() > 14) remembered.removeFirst();
        s = next;
    }

    int hide(int coins, int k) {
        if (coins < 3 || coins > 12) throw new IllegalArgumentException();
        if (k < 0 || k >= cases(coins)) throw new IndexOutOfBoundsException();
        become(new State(coins, k, s.leftArm, s.rightArm, s.rightly, s.wrongly, List.of()));
        return cases(coins);
    }

    int arms(int left, int right) {
        if (left < 1 || left > 20 || right < 1 || right > 20) throw new IllegalArgumentException();
        become(new State(s.coins, s.hidden, left, right, s.rightly, s.wrongly, s.weighings));
        return left == right ? 1 : 0;
    }

    private void ask(int left, int right) {
        boolean can = left >= 0 && right >= 0 && left < 1 << s.coins && right < 1 << s.coins;
        if (!can || (left & right) != 0 || left + right == 0) throw new IllegalArgumentException();
    }

    int weigh(int left, int right) {
        ask(left, right);
        if (s.weighings.size() == 20) throw new IllegalStateException();
        int outcome = outcome(left, right, s.leftArm, s.rightArm, s.hidden, s.coins);
        List<Weighing> more = new ArrayList<>(s.weighings);
        more.add(new Weighing(left, right, outcome, s.leftArm, s.rightArm));
        become(new State(s.coins, s.hidden, s.leftArm, s.rightArm, s.rightly, s.wrongly, more));
        return outcome;
    }

    private int accused(boolean so) {
        become(new State(s.coins, s.hidden, s.leftArm, s.rightArm,
                s.rightly + (so ? 1 : 0), s.wrongly + (so ? 0 : 1), s.weighings));
        return so ? 1 : 0;
    }

    int accuse(int c, boolean heavy) {
        if (c < 0 || c >= s.coins) throw new IndexOutOfBoundsException();
        return accused(s.hidden / 3 == (heavy ? 2 * c + 1 : 2 * c));
    }

    int accusePan(int pan) {
        if (pan < 0 || pan > 2) throw new IllegalArgumentException();
        return accused(s.hidden % 3 == pan);
    }

    int forget() {
        int n = s.weighings.size();
        if (n == 0) throw new IllegalStateException();
        become(new State(s.coins, s.hidden, s.leftArm, s.rightArm, s.rightly, s.wrongly,
                s.weighings.subList(0, n - 1)));
        return n - 1;
    }

    int undo() {
        if (remembered.isEmpty()) throw new IllegalStateException();
        s = remembered.removeLast();
        return remembered.size();
    }

    // ---- what would be

    int leaves(int left, int right, int outcome) {
        if (outcome < 0 || outcome > 2) throw new IndexOutOfBoundsException();
        ask(left, right);
        return split(left(s), left, right, s.leftArm, s.rightArm)[outcome];
    }

    int best(int j, int what) {
        if (j < 1 || j > 2 || what < 0 || what > 2) throw new IllegalArgumentException();
        List<Integer> left = left(s);
        int[] found = {-1, -1, -1};
        for (int a = 0; a < 1 << s.coins; a++) {
            if (Integer.bitCount(a) != j) continue;
            for (int b = 0; b < 1 << s.coins; b++) {
                if (Integer.bitCount(b) != j || (a & b) != 0) continue;
                int worst = worst(split(left, a, b, s.leftArm, s.rightArm));
                if (found[2] < 0 || worst < found[2]) found = new int[] {a, b, worst};
            }
        }
        return found[what];
    }

    int sharpest() {
        List<Integer> left = left(s);
        int most = 0;
        int found = -1;
        for (int a = 0; a < s.coins; a++) {
            for (int b = 0; b <= 12; b++) {
                if (b == a || b >= s.coins && b != 12) continue;
                int pairs = 0;
                int[] of = new int[left.size()];
                for (int i = 0; i < of.length; i++) {
                    of[i] = outcome(1 << a, b == 12 ? 0 : 1 << b, s.leftArm, s.rightArm, left.get(i), s.coins);
                    for (int k = 0; k < i; k++) {
                        if (of[i] != of[k]) pairs++;
                    }
                }
                if (pairs > most) {
                    most = pairs;
                    found = 100 * a + b;
                }
            }
        }
        return found;
    }

    int needs() {
        int n = 0;
        while (Math.pow(3, n) < left(s).size()) n++;
        return n;
    }

    int bestArms(int left, int right) {
        ask(left, right);
        List<Integer> cases = left(s);
        int least = 1000;
        int found = 0;
        for (int number = 101; number <= 2020; number++) {
            int a = number / 100;
            int b = number % 100;
            if (b < 1 || b > 20) continue;
            int worst = worst(split(cases, left, right, a, b));
            if (worst < least) {
                least = worst;
                found = number;
            }
        }
        return found;
    }

    // ---- scripts, simulations

    private Model copy() {
        Model m = new Model();
        m.s = s;
        return m;
    }

    int runScript(int n, long script) {
        if (n < 1 || n > 3 || script < 0) throw new IllegalArgumentException();
        String digits = "" + script;
        if (digits.length() > 5 * n) throw new IllegalArgumentException();
        digits = "0".repeat(5 * n - digits.length()) + digits;
        Model m = copy();
        for (int i = 0; i < n; i++) {
            try {
                if (!m.command(digits.substring(5 * i, 5 * i + 5))) return i;
            } catch (RuntimeException e) {
                return i;
            }
        }
        return -1;
    }

    private boolean command(String g) {
        int aa = Integer.parseInt(g.substring(1, 3));
        int bb = Integer.parseInt(g.substring(3));
        if (g.matches("1....")) {
            if (aa >= s.coins || bb >= s.coins && bb != 99) return false;
            weigh(1 << aa, bb == 99 ? 0 : 1 << bb);
            return true;
        }
        if (g.matches("2....")) {
            arms(aa, bb);
            return true;
        }
        if (g.matches("3..0[01]")) return accuse(aa, bb == 1) == 1;
        if (g.matches("4.000")) return accusePan(g.charAt(1) - '0') == 1;
        if (g.equals("50000")) {
            forget();
            return true;
        }
        if (g.matches("600..")) return left(s).size() <= bb;
        if (g.matches("7..0.")) return coin(aa) == bb;
        if (g.matches("8000.")) return pans() == bb;
        if (g.matches("9000.")) return needs() <= bb;
        return false;
    }

    int simulate(long seed, int m) {
        if (m < 1 || m > 60) throw new IllegalArgumentException();
        Model copy = copy();
        long x = seed;
        for (int i = 0; i < m; i++) {
            x = x * 6364136223846793005L + 1442695040888963407L;
            try {
                copy.turn((int) (x >>> 33));
            } catch (RuntimeException e) {
                // left out
            }
        }
        return 1000 * copy.s.weighings.size() + left(copy.s).size();
    }

    private void turn(int r) {
        int q = r / 8;
        int all = (1 << s.coins) - 1;
        switch (r % 8) {
            case 0:
                if (q % 3 == 0) arms(1 + q % 20, 1 + q / 32 % 20);
                else arms(10, 10);
                break;
            case 1: forget(); break;
            case 2: accuse(q % 12, q / 16 % 2 == 1); break;
            default:
                int a = q % 4096 & all;
                weigh(a, q / 4096 % 4096 & all & ~a);
        }
    }

    // ---- save slots

    int save(int slot) {
        if (slot < 0 || slot > 1) throw new IndexOutOfBoundsException();
        slots[slot] = s;
        return left(s).size();
    }

    int restore(int slot) {
        if (slot < 0 || slot > 1) throw new IndexOutOfBoundsException();
        if (slots[slot] == null) throw new IllegalStateException();
        s = slots[slot];
        remembered.clear();
        return left(s).size();
    }
}
