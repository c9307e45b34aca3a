/** Promise 12: arms. */
public final class Promise12Arms {
    public static void main(String[] args) {
        all();
        Pan x = new Pan();
        x.arms(1, 20);
        x.arms(20, 20);
        Check.due("arms(20, 20) again", x.arms(20, 20), 1);
        Check.due("is an action, too: undo", x.undo(), 2);
        Check.due("undo", x.undo(), 1);
        Check.due("the left arm", x.about(4), 1);
        weighingsStay();
        int[] bad = {0, 21, -1, -10, 100, Integer.MIN_VALUE, Integer.MAX_VALUE};
        for (int length : bad) {
            for (int other : new int[] {1, 10, 20, length}) {
                Check.refused("arms(" + length + ", " + other + ")", Check.ARGUMENT, y -> y.arms(length, other));
                Check.refused("arms(" + other + ", " + length + ")", Check.ARGUMENT, y -> y.arms(other, length));
            }
        }
        Check.finish();
    }

    private static void all() {
        for (int left = 1; left <= 20; left++) {
            Pan x = new Pan();
            for (int right = 1; right <= 20; right++) {
                Check.due("arms(" + left + ", " + right + ")", x.arms(left, right), left == right ? 1 : 0);
                Check.due("the left arm", x.about(4), left);
                Check.due("the right arm", x.about(5), right);
            }
        }
    }

    private static void weighingsStay() {
        Pan x = Check.used();
        int left = x.about(2);
        x.arms(3, 4);
        Check.due("arms leave the cases", x.about(2), left);
        Check.due("arms leave the weighings", x.about(3), 3);
        x.forget();
        Check.due("forget weighs with the arms as they were", x.about(2), x.weighing(1, 5));
        Check.due("forget leaves the left arm", x.about(4), 3);
        Check.due("forget leaves the right arm", x.about(5), 4);
        Check.due("arms leave the accused", x.about(7) * 10 + x.about(8), 11);
        Pan full = Check.full();
        Check.due("arms with 20 weighings", full.arms(1, 1), 1);
        Check.due("weighings behind it", full.about(3), 20);
    }
}
