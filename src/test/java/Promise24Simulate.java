/** Promise 24: simulate. */
public final class Promise24Simulate {
    public static void main(String[] args) {
        String[] tables = {"P0900l0", "P0302h1", "P1211h2wavb.", "P0500t2a0910wabvc.",
            "P1200t0" + "wav.".repeat(20), "P0300l0" + "wav.".repeat(19)};
        long[] seeds = {0, 1, -1, 7, 12345, -987654321, Long.MAX_VALUE, Long.MIN_VALUE, 1L << 40, 6364136223846793005L};
        int[] turns = {1, 2, 3, 7, 20, 59, 60};
        for (String table : tables) {
            for (long seed : seeds) {
                for (int m : turns) {
                    Check.due(table + ": simulate(" + seed + ", " + m + ")",
                            Check.loaded(table).simulate(seed, m), byCalls(Check.loaded(table), seed, m));
                }
            }
        }
        Check.onlyAnswers("simulate(3, 60)", Check.used().simulate(3, 60), Check::used, y -> y.simulate(3, 60));
        Check.onlyAnswers("simulate(99, 1)", Check.used().simulate(99, 1), Check::used, y -> y.simulate(99, 1));
        Check.refused("simulate(0, 0)", IllegalArgumentException.class, Check::used, y -> y.simulate(0, 0));
        Check.refused("simulate(0, -1)", IllegalArgumentException.class, Check::used, y -> y.simulate(0, -1));
        Check.refused("simulate(0, 61)", IllegalArgumentException.class, Check::used, y -> y.simulate(0, 61));
        Check.refused("simulate(0, least)", IllegalArgumentException.class, Check::used,
                y -> y.simulate(0, Integer.MIN_VALUE));
        Check.finish();
    }

    /** The turns as calls of the object itself. */
    private static long byCalls(FalsePan x, long seed, int m) {
        long at = seed;
        for (int i = 0; i < m; i++) {
            at = at * 6364136223846793005L + 1442695040888963407L;
            int r = (int) (at >>> 33);
            Check.answer(x, y -> turn(y, r));
        }
        return 1000 * x.about(3) + x.about(2);
    }

    private static int turn(FalsePan x, int r) {
        int q = r / 8;
        int there = (1 << x.about(0)) - 1;
        switch (r % 8) {
            case 0: return q % 3 == 0 ? x.arms(1 + q % 20, 1 + q / 32 % 20) : x.arms(10, 10);
            case 1: return x.forget();
            case 2: return x.accuse(q % 12, q / 16 % 2 == 1);
            default:
                int a = q % 4096 & there;
                return x.weigh(a, q / 4096 % 4096 & there & ~a);
        }
    }
}
