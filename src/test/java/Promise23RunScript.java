/** Promise 23: runScript. */
public final class Promise23RunScript {
    // 5 coins, c is heavy; two weighings, which tell that the pans, a and b
    // are true; 7 cases left.
    private static final String TABLE = "P0502h0wavb.wbva.";

    public static void main(String[] args) {
        weighs();
        actions();
        questions();
        several();
        digits();
        onACopy();
        everyGroup("P0502h1wavb.wbva.");
        everyGroup("P1211l2wabcvdef.a1110");
        everyGroup("P0304t0" + "wavb.".repeat(20));
        everyGroup("P0300h0");
        everyGroup("P0302h0wavb.wbva.wavc.");
        refused();
        Check.finish();
    }

    private static void due(int n, long script, int want) {
        Check.onlyAnswers("runScript(" + n + ", " + script + ")", want, () -> Check.loaded(TABLE),
                y -> y.runScript(n, script));
    }

    private static void succeeds(long command) { due(1, command, Check.NONE); }

    private static void fails(long command) { due(1, command, 0); }

    private static void weighs() {
        succeeds(10001);
        succeeds(10099);
        succeeds(10399);
        succeeds(10499);
        due(2, 10299_60007L, Check.NONE);
        due(2, 10299_60006L, 1);
        succeeds(10004);
        fails(10000);
        fails(10500);
        fails(10005);
        fails(10098);
        fails(10012);
        fails(19900);
        fails(19999);
        Check.due("a script of weighings on a full table",
                Check.loaded("P0300l0" + "wav.".repeat(20)).runScript(1, 10001), 0);
        Check.due("the last weighing for which there is room",
                Check.loaded("P0300l0" + "wav.".repeat(19)).runScript(2, 10001_10001L), 1);
    }

    private static void actions() {
        succeeds(20101);
        succeeds(22020);
        fails(20001);
        fails(20100);
        fails(22120);
        fails(22021);
        succeeds(30201);
        fails(30200);
        fails(30101);
        fails(30202);
        fails(30211);
        fails(30501);
        fails(39901);
        succeeds(40000);
        fails(41000);
        fails(42000);
        fails(43000);
        fails(40100);
        fails(40010);
        fails(40001);
        Check.due("no pan has the number 3", Check.loaded("P0502h2").runScript(1, 43000), 0);
        Check.due("the left pan", Check.loaded("P0502h1").runScript(1, 41000), -1);
        Check.due("the right pan", Check.loaded("P0502h2").runScript(1, 42000), -1);
        succeeds(50000);
        fails(50001);
        fails(51000);
        fails(50010);
        fails(50100);
        due(2, 50000_50000L, Check.NONE);
        due(3, 50000_50000_50000L, 2);
        Check.due("forget of none", new Pan().runScript(1, 50000), 0);
        Check.due("all are true", Check.loaded("P0500t0").runScript(1, 30500), 0);
    }

    private static void questions() {
        succeeds(60007);
        succeeds(60008);
        succeeds(60099);
        fails(60006);
        fails(60000);
        fails(61007);
        fails(60107);
        succeeds(70207);
        succeeds(70004);
        fails(70206);
        fails(70005);
        fails(70014);
        fails(70217);
        fails(70507);
        fails(79907);
        succeeds(80001);
        fails(80003);
        fails(80011);
        fails(80101);
        fails(81001);
        succeeds(90002);
        succeeds(90009);
        fails(90001);
        fails(90012);
        fails(90102);
        fails(91002);
        Check.due("all pans", new Pan().runScript(1, 80007), -1);
        Check.due("many cases", Check.loaded("P1200l0").runScript(1, 60075), -1);
        Check.due("many cases", Check.loaded("P1200l0").runScript(1, 60074), 0);
        Check.due("one case is left", Check.loaded("P0302h0wavb.wbva.wavc.").runScript(2, 60001_90000L), -1);
    }

    private static void several() {
        // c sinks against d: c or d is false; then c against a tells.
        due(3, 10203_60002_10200L, Check.NONE);
        due(3, 10203_60001_10200L, 1);
        due(3, 10203_10200_60001L, Check.NONE);
        due(3, 10203_10200_90000L, Check.NONE);
        due(3, 10203_10200_70202L, Check.NONE);
        due(3, 50000_80007_60011L, Check.NONE);
        due(3, 50000_80007_60010L, 2);
        // Arms that tell nothing leave the 7 cases.
        due(3, 20120_10203_60006L, 2);
        due(3, 20120_10203_60007L, Check.NONE);
        due(2, 30201_40000L, Check.NONE);
    }

    /** "A number of at most 5 * n digits (0 or more)", "with zeros before it, if it has fewer digits". */
    private static void digits() {
        // No command begins with a zero.
        for (long script : new long[] {0, 1, 9, 10, 99, 999, 9999}) {
            due(1, script, 0);
            due(2, script, 0);
            due(3, script, 0);
        }
        due(1, 10001, Check.NONE);
        due(2, 10001, 0);
        due(2, 99999, 0);
        due(3, 10001, 0);
        due(3, 10001_10001L, 0);
        due(3, 99999_99999L, 0);
        due(2, 10001_00000L, 1);
        due(3, 10001_00000_10001L, 1);
        due(3, 10001_10001_00000L, 2);
        due(3, 10001_10001_10001L, Check.NONE);
        due(1, 99999, 0);
        due(2, 99999_99999L, 0);
        due(3, 99999_99999_99999L, 0);
        due(2, 90002_99999L, 1);
        due(3, 90002_90002_99999L, 2);
        // The first command is the highest group.
        due(2, 90002_10000L, 1);
        due(2, 10000_90002L, 0);
    }

    /** "On a copy of the state": whatever it does, a second run finds the table as it was. */
    private static void onACopy() {
        for (long script : new long[] {10203_10004_20102L, 30201_40000_50000L, 50000_50000_20101L}) {
            Check.changesNothing("runScript(3, " + script + ")", y -> y.runScript(3, script));
        }
        Pan x = Check.loaded(TABLE);
        Check.due("one weighing forgotten", x.runScript(2, 50000_60011L), Check.NONE);
        Check.due("and again", x.runScript(2, 50000_60011L), Check.NONE);
        Check.due("both forgotten", x.runScript(3, 50000_50000_60032L), 2);
        Check.due("and again", x.runScript(3, 50000_50000_60033L), Check.NONE);
    }

    /** All groups there are, each as the calls that it stands for answer on a table of its own. */
    private static void everyGroup(String text) {
        for (int first = 0; first < 100_000; first += 400) {
            Pan x = Check.loaded(text);
            for (int group = first; group < first + 400; group++) {
                String digits = "" + (100_000 + group);
                boolean succeeds = byCalls(Check.loaded(text), digits.substring(1));
                Check.due(text + ": runScript(1, " + group + ")", x.runScript(1, group), succeeds ? Check.NONE : 0);
            }
        }
    }

    private static boolean byCalls(Pan x, String group) {
        int aa = Integer.parseInt(group.substring(1, 3));
        int bb = Integer.parseInt(group.substring(3));
        int p = group.charAt(1) - '0';
        int coins = x.about(0);
        boolean twoCoins = aa < coins && (bb < coins || bb == 99);
        switch (group.charAt(0)) {
            case '1': return twoCoins && answers(x, y -> y.weigh(1 << aa, bb == 99 ? 0 : 1 << bb));
            case '2': return answers(x, y -> y.arms(aa, bb));
            case '3': return bb <= 1 && Check.answer(x, y -> y.accuse(aa, bb == 1)).equals("1");
            case '4': return group.endsWith("000") && Check.answer(x, y -> y.accusePan(p)).equals("1");
            case '5': return group.endsWith("0000") && answers(x, y -> y.forget());
            case '6': return aa == 0 && x.about(2) <= bb;
            case '7': return bb <= 9 && Check.answer(x, y -> y.coin(aa)).equals("" + bb);
            case '8': return aa == 0 && x.pans() == bb;
            case '9': return aa == 0 && bb <= 9 && x.needs() <= bb;
            default: return false;
        }
    }

    private static boolean answers(Pan x, Check.On call) { return !Check.answer(x, call).startsWith("throws"); }

    private static void refused() {
        for (int n : new int[] {0, 4, -1, -3, Integer.MIN_VALUE, Integer.MAX_VALUE}) {
            for (long script : new long[] {0, 10001, 10001_10001_10001L, -1, Long.MIN_VALUE, Long.MAX_VALUE}) {
                Check.refused("runScript(" + n + ", " + script + ")", Check.ARGUMENT, y -> y.runScript(n, script));
            }
        }
        long[] tooLong = {100_000L, 100_000_00000L, 100_000_00000_00000L};
        for (int n = 1; n <= 3; n++) {
            int commands = n;
            for (long script : new long[] {-1, -10001, -99999_99999L, Long.MIN_VALUE, Long.MIN_VALUE + 1}) {
                Check.refused("runScript(" + n + ", " + script + ")", Check.ARGUMENT,
                        y -> y.runScript(commands, script));
            }
            long most = tooLong[n - 1];
            for (long script : new long[] {most, most + 1, 10 * most, Long.MAX_VALUE, Long.MAX_VALUE - 1}) {
                Check.refused("runScript(" + n + ", " + script + ")", Check.ARGUMENT,
                        y -> y.runScript(commands, script));
            }
            Check.changesNothing("runScript(" + n + ", " + (most - 1) + ")", y -> y.runScript(commands, most - 1));
            Check.changesNothing("runScript(" + n + ", 0)", y -> y.runScript(commands, 0));
        }
        // In its lower half, which is an int, this number is a script.
        Check.refused("runScript(1, 2 to the power of 32, and 10001)", Check.ARGUMENT,
                y -> y.runScript(1, (1L << 32) + 10001));
    }
}
