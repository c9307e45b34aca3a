/** A FalsePan whose calls are counted: the document promises nothing behind the 512th. */
final class Pan {
    private static final int MOST_CALLS = 512;

    private final FalsePan x = new FalsePan();
    private int calls = 0;

    private FalsePan counted() {
        calls++;
        if (calls > MOST_CALLS) {
            throw new AssertionError("this test calls an object more than " + MOST_CALLS + " times");
        }
        return x;
    }

    int append(int c) { return counted().append(c); }

    int clearText() { return counted().clearText(); }

    int errorPosition() { return counted().errorPosition(); }

    int load() { return counted().load(); }

    int about(int what) { return counted().about(what); }

    int coin(int c) { return counted().coin(c); }

    int pans() { return counted().pans(); }

    int isLeft(int k) { return counted().isLeft(k); }

    int weighing(int i, int what) { return counted().weighing(i, what); }

    int hide(int coins, int k) { return counted().hide(coins, k); }

    int arms(int left, int right) { return counted().arms(left, right); }

    int weigh(int left, int right) { return counted().weigh(left, right); }

    int accuse(int c, boolean heavy) { return counted().accuse(c, heavy); }

    int accusePan(int pan) { return counted().accusePan(pan); }

    int forget() { return counted().forget(); }

    int undo() { return counted().undo(); }

    int leaves(int left, int right, int outcome) { return counted().leaves(left, right, outcome); }

    int best(int j, int what) { return counted().best(j, what); }

    int sharpest() { return counted().sharpest(); }

    int needs() { return counted().needs(); }

    int bestArms(int left, int right) { return counted().bestArms(left, right); }

    int runScript(int n, long script) { return counted().runScript(n, script); }

    int simulate(long seed, int m) { return counted().simulate(seed, m); }

    int save(int slot) { return counted().save(slot); }

    int restore(int slot) { return counted().restore(slot); }
}
