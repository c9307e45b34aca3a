/** Promise 12: arms. */
public final class Promise12Arms {
    public static void main(String[] args) {
        FalsePan x = new FalsePan();
        Check.due("arms(1, 20)", x.arms(1, 20), 0);
        Check.due("left arm", x.about(4), 1);
        Check.due("right arm", x.about(5), 20);
        Check.due("arms(20, 20)", x.arms(20, 20), 1);
        Check.due("left arm", x.about(4), 20);
        Check.due("arms(20, 20) again is an action too", x.arms(20, 20), 1);
        Check.due("undo", x.undo(), 2);
        Check.due("undo", x.undo(), 1);
        Check.due("left arm", x.about(4), 1);
        FalsePan y = Check.used();
        int left = y.about(2);
        y.arms(3, 4);
        Check.due("arms leave the cases", y.about(2), left);
        y.forget();
        Check.due("forget weighs with the arms as they were", Check.look(y).substring(0, 12),
                "5 33 " + y.weighing(1, 5) + " 2 3 4");
        Check.refused("arms(0, 1)", IllegalArgumentException.class, Check::used, z -> z.arms(0, 1));
        Check.refused("arms(1, 0)", IllegalArgumentException.class, Check::used, z -> z.arms(1, 0));
        Check.refused("arms(21, 20)", IllegalArgumentException.class, Check::used, z -> z.arms(21, 20));
        Check.refused("arms(20, 21)", IllegalArgumentException.class, Check::used, z -> z.arms(20, 21));
        Check.refused("arms(-10, -10)", IllegalArgumentException.class, Check::used, z -> z.arms(-10, -10));
        Check.finish();
    }
}
