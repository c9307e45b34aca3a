/** Promise 24: simulate. */
public final class Promise24Simulate {
    private static final String[] TABLES = {"P0900l0", "P0302h1", "P1211h2wavb.", "P0500t2a0910wabvc.",
        "P1200t0" + "wav.".repeat(20), "P0300l0" + "wav.".repeat(19)};

    public static void main(String[] args) {
        long[] seeds = {0, 1, -1, 7, 12345, -987654321, Integer.MAX_VALUE, Integer.MIN_VALUE, 1L << 33, 1L << 40,
            6364136223846793005L, Long.MAX_VALUE, Long.MAX_VALUE - 1, Long.MIN_VALUE, Long.MIN_VALUE + 1};
        for (String table : TABLES) {
            for (long seed : seeds) {
                for (int m : new int[] {1, 2, 3, 7, 20, 59, 60}) {
                    simulate(table, seed, m);
                }
            }
            for (long seed = 1000; seed < 1100; seed++) {
                simulate(table, seed * 0x9E3779B97F4A7C15L, 60);
            }
        }
        firstTurns();
        copies();
        for (int m : new int[] {0, -1, 61, 62, 1000, Integer.MIN_VALUE, Integer.MAX_VALUE}) {
            for (long seed : new long[] {0, -1, Long.MAX_VALUE, Long.MIN_VALUE}) {
                Check.refused("simulate(" + seed + ", " + m + ")", Check.ARGUMENT, y -> y.simulate(seed, m));
            }
        }
        Check.finish();
    }

    private static void simulate(String table, long seed, int m) {
        Check.due(table + ": simulate(" + seed + ", " + m + ")", Check.loaded(table).simulate(seed, m),
                byCalls(Check.loaded(table), seed, m));
    }

    /** Seeds whose first turn is any of the eight, with any number behind it. */
    private static void firstTurns() {
        // The number by which a turn multiplies, times this one, is 1.
        long back = -4568919932995229531L;
        Check.due("the way back", back * 6364136223846793005L, 1);
        for (int r = 0; r < 8; r++) {
            for (int q : new int[] {0, 1, 2, 3, 16, 19, 20, 27, 31, 32, 639, 640, 4095, 4096, 8193, (1 << 28) - 1}) {
                long x = ((long) (8 * q + r) << 33) - 1442695040888963407L;
                simulate("P0500h1wavb.", x * back, 1);
                simulate("P0500h1wavb.", x * back, 4);
                simulate("P1200t0wavb.wbva.", x * back, 1);
                simulate("P0300l2", x * back, 1);
                simulate("P0300l2", x * back, 2);
            }
        }
        // A turn that forgets: at once, and where there is nothing to forget.
        long forgets = ((1L << 33) - 1442695040888963407L) * back;
        Check.onlyAnswers("simulate, of which the only turn forgets the only weighing", 33,
                () -> Check.loaded("P0500h1wavb."), y -> y.simulate(forgets, 1));
        Check.onlyAnswers("simulate, of which the only turn has nothing to forget", 21,
                () -> Check.loaded("P0300l0"), y -> y.simulate(forgets, 1));
        // A turn that weighs a against b, at most once more.
        long weighs = ((8L * (1 + 2 * 4096) + 7 << 33) - 1442695040888963407L) * back;
        Check.onlyAnswers("simulate, of which the only turn weighs", 1007,
                () -> Check.loaded("P0302h0"), y -> y.simulate(weighs, 1));
        Check.onlyAnswers("simulate, of which the only turn would weigh a twenty-first time", 20007,
                () -> Check.loaded("P0302h0" + "wavb.".repeat(20)), y -> y.simulate(weighs, 1));
    }

    /** "On a copy of the state." */
    private static void copies() {
        for (int m : new int[] {1, 2, 59, 60}) {
            for (long seed : new long[] {0, 3, 99, Long.MAX_VALUE, Long.MIN_VALUE}) {
                Check.changesNothing("simulate(" + seed + ", " + m + ")", y -> y.simulate(seed, m));
            }
        }
    }

    /** The turns as calls of the object itself. */
    private static long byCalls(Pan x, long seed, int m) {
        long at = seed;
        for (int i = 0; i < m; i++) {
            at = at * 6364136223846793005L + 1442695040888963407L;
            int r = (int) (at >>> 33);
            Check.answer(x, y -> turn(y, r));
        }
        return 1000 * x.about(3) + x.about(2);
    }

    private static int turn(Pan x, int r) {
        int q = r / 8;
        int there = (1 << x.about(0)) - 1;
        switch (r % 8) {
            case 0: return q % 3 == 0 ? x.arms(1 + q % 20, 1 + q / 32 % 20) : x.arms(10, 10);
            case 1: return x.forget();
            case 2: return x.accuse(q % 12, q / 16 % 2 == 1);
            default:
                int a = q % 4096 & there;
                return x.weigh(a, q / 4096 % 4096 & there & ~a);
        }
    }
}
