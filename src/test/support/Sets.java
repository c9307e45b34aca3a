import java.util.ArrayList;
import java.util.List;

/** Pairs of sets of coins at the edges of what can be weighed. */
final class Sets {
    private Sets() { }

    /** Pairs that can be weighed with so many coins: {left, right}. */
    static List<int[]> good(int coins) {
        int all = (1 << coins) - 1;
        int last = 1 << coins - 1;
        List<int[]> pairs = new ArrayList<>();
        pairs.add(new int[] {1, 0});
        pairs.add(new int[] {0, 1});
        pairs.add(new int[] {last, 0});
        pairs.add(new int[] {0, last});
        pairs.add(new int[] {1, last});
        pairs.add(new int[] {last, 1});
        pairs.add(new int[] {all, 0});
        pairs.add(new int[] {0, all});
        pairs.add(new int[] {1, all & ~1});
        pairs.add(new int[] {all & ~last, last});
        pairs.add(new int[] {all & 0x555, all & 0xAAA});
        return pairs;
    }

    /** Pairs that cannot be weighed with so many coins: {left, right}. */
    static List<int[]> bad(int coins) {
        int all = (1 << coins) - 1;
        int last = 1 << coins - 1;
        List<int[]> pairs = new ArrayList<>();
        // Both are empty.
        pairs.add(new int[] {0, 0});
        // They have a coin in common: the first, the last, one of several, all.
        pairs.add(new int[] {1, 1});
        pairs.add(new int[] {last, last});
        pairs.add(new int[] {1, 3});
        pairs.add(new int[] {3, 6});
        pairs.add(new int[] {all, last});
        pairs.add(new int[] {1, all});
        pairs.add(new int[] {all, all});
        // A coin that is not there: the next one, one of those that might be, one that never is.
        for (int other : new int[] {1 << coins, 1 << 12, 1 << 30, Integer.MIN_VALUE}) {
            pairs.add(new int[] {other, 0});
            pairs.add(new int[] {0, other});
            pairs.add(new int[] {other, 1});
            pairs.add(new int[] {1, other});
            pairs.add(new int[] {other | 1, 2});
            pairs.add(new int[] {2, other | 1});
            pairs.add(new int[] {all | other, 0});
        }
        // Numbers below 0 and the greatest one.
        pairs.add(new int[] {-1, 0});
        pairs.add(new int[] {0, -1});
        pairs.add(new int[] {-1, -1});
        pairs.add(new int[] {-2, 1});
        pairs.add(new int[] {1, -2});
        pairs.add(new int[] {1, -8});
        pairs.add(new int[] {Integer.MAX_VALUE, 0});
        pairs.add(new int[] {0, Integer.MAX_VALUE});
        pairs.add(new int[] {Integer.MIN_VALUE, Integer.MAX_VALUE});
        return pairs;
    }

    static String told(String call, int[] pair, int coins) {
        return call + "(" + pair[0] + ", " + pair[1] + ") of " + coins + " coins";
    }
}
