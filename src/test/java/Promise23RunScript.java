/** Promise 23: runScript. */
public final class Promise23RunScript {
    // 5 coins, c is heavy; two weighings, which tell that the pans, a and b
    // are true; 7 cases left.
    private static final String TABLE = "P0502h0wavb.wbva.";

    public static void main(String[] args) {
        weighs();
        actions();
        questions();
        others();
        several();
        refused();
        Check.finish();
    }

    private static void due(int n, long script, int want) {
        Check.onlyAnswers("runScript(" + n + ", " + script + ")", want, () -> Check.loaded(TABLE),
                y -> y.runScript(n, script));
    }

    private static void succeeds(long command) { due(1, command, FalsePan.NONE); }

    private static void fails(long command) { due(1, command, 0); }

    private static void weighs() {
        succeeds(10001);
        succeeds(10099);
        succeeds(10399);
        succeeds(10499);
        due(2, 10299_60007L, FalsePan.NONE);
        due(2, 10299_60006L, 1);
        succeeds(10004);
        fails(10000);
        fails(10500);
        fails(10005);
        fails(10098);
        fails(10012);
        fails(19900);
        fails(19999);
        Check.due("a script of weighings on a full table",
                Check.loaded("P0300l0" + "wav.".repeat(20)).runScript(1, 10001), 0);
        Check.due("the last weighing for which there is room",
                Check.loaded("P0300l0" + "wav.".repeat(19)).runScript(2, 10001_10001L), 1);
    }

    private static void actions() {
        succeeds(20101);
        succeeds(22020);
        fails(20001);
        fails(20100);
        fails(22120);
        fails(22021);
        succeeds(30201);
        fails(30200);
        fails(30101);
        fails(30202);
        fails(30211);
        fails(30501);
        fails(39901);
        succeeds(40000);
        fails(41000);
        fails(42000);
        fails(43000);
        fails(40100);
        fails(40010);
        fails(40001);
        Check.due("no pan has the number 3", Check.loaded("P0502h2").runScript(1, 43000), 0);
        Check.due("the left pan", Check.loaded("P0502h1").runScript(1, 41000), -1);
        Check.due("the right pan", Check.loaded("P0502h2").runScript(1, 42000), -1);
        succeeds(50000);
        fails(50001);
        fails(51000);
        fails(50010);
        fails(50100);
        due(2, 50000_50000L, FalsePan.NONE);
        due(3, 50000_50000_50000L, 2);
        Check.due("forget of none", new FalsePan().runScript(1, 50000), 0);
        Check.due("all are true", Check.loaded("P0500t0").runScript(1, 30500), 0);
    }

    private static void questions() {
        succeeds(60007);
        succeeds(60008);
        succeeds(60099);
        fails(60006);
        fails(60000);
        fails(61007);
        fails(60107);
        succeeds(70207);
        succeeds(70004);
        fails(70206);
        fails(70005);
        fails(70014);
        fails(70217);
        fails(70507);
        fails(79907);
        succeeds(80001);
        fails(80003);
        fails(80011);
        fails(80101);
        fails(81001);
        succeeds(90002);
        succeeds(90009);
        fails(90001);
        fails(90012);
        fails(90102);
        fails(91002);
        Check.due("all pans", new FalsePan().runScript(1, 80007), -1);
        Check.due("many cases", Check.loaded("P1200l0").runScript(1, 60075), -1);
        Check.due("many cases", Check.loaded("P1200l0").runScript(1, 60074), 0);
        Check.due("one case is left", Check.loaded("P0302h0wavb.wbva.wavc.").runScript(2, 60001_90000L), -1);
    }

    private static void others() {
        fails(0);
        fails(1);
        fails(9999);
        due(3, 0, 0);
        due(2, 10001, 0);
        due(3, 10001_10001L, 0);
        due(3, 90002_00000_90002L, 1);
    }

    private static void several() {
        // c sinks against d: c or d is false; then c against a tells.
        due(3, 10203_60002_10200L, FalsePan.NONE);
        due(3, 10203_60001_10200L, 1);
        due(3, 10203_10200_60001L, FalsePan.NONE);
        due(3, 10203_10200_90000L, FalsePan.NONE);
        due(3, 10203_10200_70202L, FalsePan.NONE);
        due(3, 50000_80007_60011L, FalsePan.NONE);
        due(3, 50000_80007_60010L, 2);
        // Arms that tell nothing leave the 7 cases.
        due(3, 20120_10203_60006L, 2);
        due(3, 20120_10203_60007L, FalsePan.NONE);
        due(2, 30201_40000L, FalsePan.NONE);
        Check.onlyAnswers("a script on a used table", -1, Check::used, y -> y.runScript(3, 20101_10304_50000L));
    }

    private static void refused() {
        Check.Maker used = Check::used;
        Class<?> bad = IllegalArgumentException.class;
        Check.refused("runScript(0, 0)", bad, used, y -> y.runScript(0, 0));
        Check.refused("runScript(4, 10001)", bad, used, y -> y.runScript(4, 10001));
        Check.refused("runScript(-1, 10001)", bad, used, y -> y.runScript(-1, 10001));
        Check.refused("runScript(most, 0)", bad, used, y -> y.runScript(Integer.MAX_VALUE, 0));
        Check.refused("runScript(1, -1)", bad, used, y -> y.runScript(1, -1));
        Check.refused("runScript(3, least)", bad, used, y -> y.runScript(3, Long.MIN_VALUE));
        Check.refused("runScript(1, 100000)", bad, used, y -> y.runScript(1, 100_000));
        Check.refused("runScript(2, 10 digits and one)", bad, used, y -> y.runScript(2, 10_000_000_000L));
        Check.refused("runScript(3, 15 digits and one)", bad, used, y -> y.runScript(3, 1_000_000_000_000_000L));
        Check.refused("runScript(3, most)", bad, used, y -> y.runScript(3, Long.MAX_VALUE));
        Check.onlyAnswers("runScript(1, 99999)", 0, used, y -> y.runScript(1, 99_999));
        Check.onlyAnswers("runScript(2, 9999999999)", 0, used, y -> y.runScript(2, 9_999_999_999L));
        Check.onlyAnswers("runScript(3, 999999999999999)", 0, used, y -> y.runScript(3, 999_999_999_999_999L));
    }
}
