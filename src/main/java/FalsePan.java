/**
 * Coins of which one is false, on a balance with unlike arms and a pan that
 * may be false, too.
 */
public final class FalsePan {
    /** There is no such result. */
    public static final int NONE = -1;

    private static final int FEWEST_COINS = 3;
    private static final int MOST_COINS = 12;
    private static final int FIRST_COINS = 9;
    private static final int TRUE_WEIGHT = 10;
    private static final int PANS = 3;
    private static final int OUTCOMES = 3;
    private static final int LONGEST_ARM = 20;
    private static final int FIRST_ARM = 10;
    private static final int MOST_WEIGHINGS = 20;
    private static final int MOST_SIGNS = 120;
    private static final int MOST_REMEMBERED = 14;
    private static final int SLOTS = 2;
    private static final int MOST_COMMANDS = 3;
    private static final int GROUP = 100_000;
    private static final int MOST_TURNS = 60;

    // The numbers that are kept of each weighing, in the order of weighing().
    private static final int LEFT_SET = 0;
    private static final int RIGHT_SET = 1;
    private static final int OUTCOME = 2;
    private static final int LEFT_ARM = 3;
    private static final int RIGHT_ARM = 4;
    private static final int CASES_BEHIND = 5;
    private static final int KEPT_NUMBERS = 6;

    private final Text text;
    private final Table table;
    private final Table trial;
    private final History history;
    private final Slot firstSlot;
    private final Slot secondSlot;
    private final Tally tally;
    private final int[] singles;
    private final int[] pairs;

    /** Creates a table with 9 coins. */
    public FalsePan() {
        text = new Text();
        table = new Table();
        trial = new Table();
        history = new History();
        firstSlot = new Slot();
        secondSlot = new Slot();
        tally = new Tally();
        singles = setsOfOne();
        pairs = setsOfTwo();
        table.reset();
    }

    // ---- text

    /** Appends a character to the text buffer; returns the new length. */
    public int append(int c) throws IllegalArgumentException, IllegalStateException {
        if (c < 0 || c > 255) {
            throw new IllegalArgumentException("the character code is not 0 to 255");
        }
        if (text.length >= MOST_SIGNS) {
            throw new IllegalStateException("the text is full");
        }
        text.add((char) c);
        return text.length;
    }

    /** Empties the text buffer; returns the previous length. */
    public int clearText() {
        int previous = text.length;
        text.length = 0;
        return previous;
    }

    /** Returns the error position of the text; NONE if it is a table. */
    public int errorPosition() {
        text.readHead();
        for (int i = 0; i < MOST_SIGNS && text.hasMore(); i++) {
            text.readCommand();
        }
        return text.wrong ? text.at : NONE;
    }

    /** Makes the table that the text tells; returns how many commands are left out. */
    public int load() throws IllegalStateException {
        if (errorPosition() != NONE) {
            throw new IllegalStateException("the text is not a table");
        }
        history.clear();
        firstSlot.filled = false;
        secondSlot.filled = false;
        table.reset();
        text.readHead();
        table.layOut(text.coins, text.hidden);
        int leftOut = 0;
        for (int i = 0; i < MOST_SIGNS && text.hasMore(); i++) {
            text.readCommand();
            if (!obeyText()) {
                leftOut++;
            }
        }
        return leftOut;
    }

    /** Does the command that was read last; false if it would throw. */
    private boolean obeyText() {
        if (text.command == Text.ARMS) {
            return table.tryArms(text.first, text.second);
        }
        return table.tryWeighing(text.first, text.second);
    }

    // ---- what there is

    /** Returns the number that is asked for. */
    public int about(int what) throws IllegalArgumentException {
        switch (what) {
            case 0: return table.coins;
            case 1: return table.allCases();
            case 2: return table.suspects.count();
            case 3: return table.weighings;
            case 4: return table.leftArm;
            case 5: return table.rightArm;
            case 6: return table.idleWeighings();
            case 7: return table.rightly;
            case 8: return table.wrongly;
            default: throw new IllegalArgumentException("what is not 0 to 8");
        }
    }

    /** Tells what may be with a coin: 1 light, 2 more heavy, 4 more true. */
    public int coin(int c) throws IndexOutOfBoundsException {
        if (!table.hasCoin(c)) {
            throw new IndexOutOfBoundsException("there is no such coin");
        }
        return table.suspects.coinMayBe(c);
    }

    /** Tells what may be with the pans: 1 both true, 2 more left false, 4 more right false. */
    public int pans() {
        return table.suspects.pansMayBe();
    }

    /** Tells whether a case is left. */
    public int isLeft(int k) throws IndexOutOfBoundsException {
        if (k < 0 || k >= table.allCases()) {
            throw new IndexOutOfBoundsException("there is no such case");
        }
        return table.suspects.has(k) ? 1 : 0;
    }

    /** Returns a number of a weighing. */
    public int weighing(int i, int what) throws IndexOutOfBoundsException, IllegalArgumentException {
        if (i < 0 || i >= table.weighings) {
            throw new IndexOutOfBoundsException("there is no such weighing");
        }
        if (what < 0 || what >= KEPT_NUMBERS) {
            throw new IllegalArgumentException("what is not 0 to 5");
        }
        return table.kept(i, what);
    }

    // ---- actions

    /** Lays out other coins, and hides a case; returns how many cases there are. */
    public int hide(int coins, int k) throws IndexOutOfBoundsException, IllegalArgumentException {
        if (coins < FEWEST_COINS || coins > MOST_COINS) {
            throw new IllegalArgumentException("the coins are not 3 to 12");
        }
        if (k < 0 || k >= casesOf(coins)) {
            throw new IndexOutOfBoundsException("there is no such case");
        }
        history.remember(table);
        table.layOut(coins, k);
        return table.allCases();
    }

    /** Changes the arms; returns 1 if they are as long as each other then. */
    public int arms(int left, int right) throws IllegalArgumentException {
        if (!isArm(left) || !isArm(right)) {
            throw new IllegalArgumentException("an arm is not 1 to 20");
        }
        history.remember(table);
        table.tryArms(left, right);
        return left == right ? 1 : 0;
    }

    /** Weighs; returns the outcome. */
    public int weigh(int left, int right) throws IllegalArgumentException, IllegalStateException {
        refuseBadSets(left, right);
        if (table.isFull()) {
            throw new IllegalStateException("there are 20 weighings");
        }
        history.remember(table);
        table.tryWeighing(left, right);
        return table.lastOutcome();
    }

    /** Accuses a coin; returns 1 if that is so. */
    public int accuse(int c, boolean heavy) throws IndexOutOfBoundsException {
        if (!table.hasCoin(c)) {
            throw new IndexOutOfBoundsException("there is no such coin");
        }
        history.remember(table);
        return table.blameCoin(c, heavy) ? 1 : 0;
    }

    /** Accuses a pan; returns 1 if that is so. */
    public int accusePan(int pan) throws IllegalArgumentException {
        if (!isPan(pan)) {
            throw new IllegalArgumentException("the pan is not 0 to 2");
        }
        history.remember(table);
        return table.blamePan(pan) ? 1 : 0;
    }

    /** Forgets the last weighing; returns how many are left. */
    public int forget() throws IllegalStateException {
        if (table.weighings <= 0) {
            throw new IllegalStateException("there is no weighing");
        }
        history.remember(table);
        table.tryForgetting();
        return table.weighings;
    }

    /** Takes back the last action; returns how many states are still remembered. */
    public int undo() throws IllegalStateException {
        if (history.count <= 0) {
            throw new IllegalStateException("no state is remembered");
        }
        history.takeBack(table);
        return history.count;
    }

    // ---- what would be

    /** Tells how many cases a weighing would leave with an outcome. */
    public int leaves(int left, int right, int outcome)
            throws IndexOutOfBoundsException, IllegalArgumentException {
        if (outcome < 0 || outcome >= OUTCOMES) {
            throw new IndexOutOfBoundsException("there is no such outcome");
        }
        refuseBadSets(left, right);
        table.foresee(left, right, tally);
        return tally.of(outcome);
    }

    /** Finds the weighing of j coins against j that leaves the fewest cases at worst. */
    public int best(int j, int what) throws IllegalArgumentException {
        if (j < 1 || j > 2) {
            throw new IllegalArgumentException("j is not 1 or 2");
        }
        if (what < 0 || what > 2) {
            throw new IllegalArgumentException("what is not 0 to 2");
        }
        int[] sets = j == 1 ? singles : pairs;
        int end = 1 << table.coins;
        int bestLeft = NONE;
        int bestRight = NONE;
        int least = NONE;
        for (int i = 0; i < sets.length && sets[i] < end; i++) {
            for (int k = 0; k < sets.length && sets[k] < end; k++) {
                if ((sets[i] & sets[k]) != 0) {
                    continue;
                }
                table.foresee(sets[i], sets[k], tally);
                if (least == NONE || tally.worst() < least) {
                    least = tally.worst();
                    bestLeft = sets[i];
                    bestRight = sets[k];
                }
            }
        }
        return what == 0 ? bestLeft : what == 1 ? bestRight : least;
    }

    /** Finds the weighing of one coin against none or another one by which most pairs of cases differ. */
    public int sharpest() {
        int most = 0;
        int found = NONE;
        for (int a = 0; a < table.coins; a++) {
            for (int b = 0; b <= MOST_COINS; b++) {
                // 12 stands for none, behind all coins that there may be.
                if (b == a || b >= table.coins && b < MOST_COINS) {
                    continue;
                }
                table.foresee(1 << a, b < MOST_COINS ? 1 << b : 0, tally);
                if (tally.unlikePairs() > most) {
                    most = tally.unlikePairs();
                    found = 100 * a + b;
                }
            }
        }
        return found;
    }

    /** Tells how many weighings are needed at least. */
    public int needs() {
        return weighingsFor(table.suspects.count());
    }

    /** Tells which arms would make a weighing sharper. */
    public int bestArms(int left, int right) throws IllegalArgumentException {
        refuseBadSets(left, right);
        int least = NONE;
        int found = NONE;
        for (int leftArm = 1; leftArm <= LONGEST_ARM; leftArm++) {
            for (int rightArm = 1; rightArm <= LONGEST_ARM; rightArm++) {
                table.foreseeWith(left, right, leftArm, rightArm, tally);
                if (least == NONE || tally.worst() < least) {
                    least = tally.worst();
                    found = 100 * leftArm + rightArm;
                }
            }
        }
        return found;
    }

    // ---- scripts, simulations

    /** Runs a script on a copy; returns the index of the first command that fails, or NONE. */
    public int runScript(int n, long script) throws IllegalArgumentException {
        if (n < 1 || n > MOST_COMMANDS) {
            throw new IllegalArgumentException("n is not 1 to 3");
        }
        if (script < 0 || withoutGroups(script, n) != 0) {
            throw new IllegalArgumentException("the script is negative or too long");
        }
        trial.copyFrom(table);
        for (int i = 0; i < n; i++) {
            if (!obeyGroup((int) (withoutGroups(script, n - 1 - i) % GROUP))) {
                return i;
            }
        }
        return NONE;
    }

    /** Simulates m turns on a copy; returns 1000 * (the weighings) + (the cases that are left). */
    public int simulate(long seed, int m) throws IllegalArgumentException {
        if (m < 1 || m > MOST_TURNS) {
            throw new IllegalArgumentException("m is not 1 to 60");
        }
        trial.copyFrom(table);
        long x = seed;
        for (int i = 0; i < m; i++) {
            x = x * 6364136223846793005L + 1442695040888963407L;
            takeTurn((int) (x >>> 33));
        }
        return 1000 * trial.weighings + trial.suspects.count();
    }

    // ---- save slots

    /** Stores the present state in a save slot; returns the cases that are left. */
    public int save(int slot) throws IndexOutOfBoundsException {
        if (slot < 0 || slot >= SLOTS) {
            throw new IndexOutOfBoundsException("there is no such save slot");
        }
        Slot place = slot == 0 ? firstSlot : secondSlot;
        place.saved.copyFrom(table);
        place.filled = true;
        return table.suspects.count();
    }

    /** Replaces the state by the one in a save slot; returns the cases that are left then. */
    public int restore(int slot) throws IndexOutOfBoundsException, IllegalStateException {
        if (slot < 0 || slot >= SLOTS) {
            throw new IndexOutOfBoundsException("there is no such save slot");
        }
        Slot place = slot == 0 ? firstSlot : secondSlot;
        if (!place.filled) {
            throw new IllegalStateException("nothing has been saved in the slot");
        }
        table.copyFrom(place.saved);
        history.clear();
        return table.suspects.count();
    }

    // ---- what the methods above share

    private void refuseBadSets(int left, int right) {
        if (!table.canWeigh(left, right)) {
            throw new IllegalArgumentException("these sets cannot be weighed");
        }
    }

    /** Does a command of a script on the copy; false if it fails. */
    private boolean obeyGroup(int group) {
        int aa = group / 100 % 100;
        int bb = group % 100;
        int last = group % 10;
        switch (group / 10_000) {
            case 1: return tryCoins(aa, bb);
            case 2: return trial.tryArms(aa, bb);
            case 3: return bb <= 1 && trial.hasCoin(aa) && trial.blameCoin(aa, bb == 1);
            case 4: return group % 1000 == 0 && isPan(group / 1000 % 10) && trial.blamePan(group / 1000 % 10);
            case 5: return group % 10_000 == 0 && trial.tryForgetting();
            case 6: return aa == 0 && trial.suspects.count() <= bb;
            case 7: return bb <= 9 && trial.hasCoin(aa) && trial.suspects.coinMayBe(aa) == last;
            case 8: return group % 10_000 <= 9 && trial.suspects.pansMayBe() == last;
            case 9: return group % 10_000 <= 9 && weighingsFor(trial.suspects.count()) <= last;
            default: return false;
        }
    }

    /** Weighs the coin a against the coin b (99: none) on the copy; false if that cannot be. */
    private boolean tryCoins(int a, int b) {
        if (!trial.hasCoin(a) || b != 99 && !trial.hasCoin(b)) {
            return false;
        }
        return trial.tryWeighing(1 << a, b == 99 ? 0 : 1 << b);
    }

    /** Takes a turn of a simulation on the copy. */
    private void takeTurn(int r) {
        int q = r / 8;
        switch (r % 8) {
            case 0:
                if (q % 3 == 0) {
                    trial.tryArms(1 + q % 20, 1 + q / 32 % 20);
                } else {
                    trial.tryArms(FIRST_ARM, FIRST_ARM);
                }
                break;
            case 1:
                trial.tryForgetting();
                break;
            case 2:
                if (trial.hasCoin(q % 12)) {
                    trial.blameCoin(q % 12, q / 16 % 2 == 1);
                }
                break;
            default:
                int all = (1 << trial.coins) - 1;
                int a = q % 4096 & all;
                int b = q / 4096 % 4096 & all & ~a;
                trial.tryWeighing(a, b);
                break;
        }
    }

    /** The script without its lowest groups. */
    private static long withoutGroups(long script, int groups) {
        long rest = script;
        for (int i = 0; i < groups; i++) {
            rest /= GROUP;
        }
        return rest;
    }

    /** The least n with which 3 to the power of n is at least the number of cases. */
    private static int weighingsFor(int cases) {
        int n = 0;
        int reached = 1;
        for (int i = 0; i < MOST_WEIGHINGS && reached < cases; i++) {
            reached *= 3;
            n++;
        }
        return n;
    }

    private static int casesOf(int coins) {
        return PANS * (2 * coins + 1);
    }

    private static boolean isArm(int length) {
        return length >= 1 && length <= LONGEST_ARM;
    }

    private static boolean isPan(int pan) {
        return pan >= 0 && pan < PANS;
    }

    /** All sets of one coin, ascending as numbers. */
    private static int[] setsOfOne() {
        int[] sets = new int[MOST_COINS];
        for (int i = 0; i < sets.length; i++) {
            sets[i] = 1 << i;
        }
        return sets;
    }

    /** All sets of two coins, ascending as numbers. */
    private static int[] setsOfTwo() {
        int[] sets = new int[MOST_COINS * (MOST_COINS - 1) / 2];
        int n = 0;
        for (int high = 1; high < MOST_COINS; high++) {
            for (int low = 0; low < high && n < sets.length; low++) {
                sets[n] = 1 << high | 1 << low;
                n++;
            }
        }
        return sets;
    }

    /** The text buffer, and what was read from it last. */
    private static final class Text {
        static final int WEIGH = 0;
        static final int ARMS = 1;

        final char[] signs = new char[MOST_SIGNS];
        int length;
        int at;
        boolean wrong;
        int coins;
        int hidden;
        int command;
        int first;
        int second;

        void add(char sign) {
            if (length >= 0 && length < signs.length) {
                signs[length] = sign;
                length++;
            }
        }

        boolean hasMore() {
            return !wrong && at < length;
        }

        /** Reads, from the start of the text, all ahead of the commands. */
        void readHead() {
            at = 0;
            wrong = false;
            readOneOf("P");
            coins = readNumber(FEWEST_COINS, MOST_COINS);
            int coin = readNumber(0, MOST_COINS - 1);
            int sort = readOneOf("lht");
            int pan = readDigit(0, PANS - 1);
            boolean allTrue = sort == 2 || coin >= coins;
            hidden = PANS * (allTrue ? 2 * coins : 2 * coin + sort) + pan;
        }

        void readCommand() {
            command = readOneOf("wa");
            if (command == WEIGH) {
                first = readCoins();
                readOneOf("v");
                second = readCoins();
                readOneOf(".");
            } else {
                first = readNumber(1, LONGEST_ARM);
                second = readNumber(1, LONGEST_ARM);
            }
        }

        /** The sign that is to be read next; NONE at the end and behind an error. */
        int nextSign() {
            return hasMore() && at >= 0 && at < signs.length ? signs[at] : NONE;
        }

        /** Reads one of the signs that are allowed; returns its index. */
        int readOneOf(String allowed) {
            int sign = nextSign();
            int index = sign == NONE ? NONE : allowed.indexOf((char) sign);
            if (index < 0) {
                wrong = true;
                return 0;
            }
            at++;
            return index;
        }

        int readDigit(int least, int most) {
            int digit = nextSign() - '0';
            if (digit < least || digit > most) {
                wrong = true;
                return least;
            }
            at++;
            return digit;
        }

        /** Reads a number of two digits. */
        int readNumber(int least, int most) {
            int tens = readDigit(least / 10, most / 10);
            int ones = readDigit(Math.max(0, least - 10 * tens), Math.min(9, most - 10 * tens));
            return 10 * tens + ones;
        }

        /** Reads as many letters as stand in the order of the alphabet; returns them as a set. */
        int readCoins() {
            int set = 0;
            for (int c = 0; c < MOST_COINS; c++) {
                if (nextSign() == 'a' + c) {
                    set |= 1 << c;
                    at++;
                }
            }
            return set;
        }
    }

    /** What is in the pans, and the arms on which they hang. */
    private static final class Scale {
        int left;
        int right;
        int leftArm;
        int rightArm;
        int leftTrueWeight;
        int rightTrueWeight;

        void set(int newLeft, int newRight, int newLeftArm, int newRightArm) {
            left = newLeft;
            right = newRight;
            leftArm = newLeftArm;
            rightArm = newRightArm;
            leftTrueWeight = TRUE_WEIGHT * Integer.bitCount(newLeft);
            rightTrueWeight = TRUE_WEIGHT * Integer.bitCount(newRight);
        }

        /** The outcome with a false pan, and with what the coins in each pan weigh more than true ones. */
        int outcome(int pan, int leftMore, int rightMore) {
            int leftPull = leftArm * (leftTrueWeight + leftMore + (pan == 1 ? 1 : 0));
            int rightPull = rightArm * (rightTrueWeight + rightMore + (pan == 2 ? 1 : 0));
            return leftPull > rightPull ? 1 : leftPull < rightPull ? 2 : 0;
        }

        int outcomeInCase(int k) {
            int v = k / PANS;
            int more = v % 2 == 0 ? -1 : 1;
            int coin = 1 << v / 2;
            return outcome(k % PANS, (left & coin) != 0 ? more : 0, (right & coin) != 0 ? more : 0);
        }
    }

    /** How many cases have each outcome. */
    private static final class Tally {
        int level;
        int leftSinks;
        int rightSinks;

        void clear() {
            level = 0;
            leftSinks = 0;
            rightSinks = 0;
        }

        void add(int outcome, int cases) {
            if (outcome == 0) {
                level += cases;
            } else if (outcome == 1) {
                leftSinks += cases;
            } else {
                rightSinks += cases;
            }
        }

        int of(int outcome) {
            return outcome == 0 ? level : outcome == 1 ? leftSinks : rightSinks;
        }

        int worst() {
            return Math.max(level, Math.max(leftSinks, rightSinks));
        }

        int unlikePairs() {
            return level * leftSinks + level * rightSinks + leftSinks * rightSinks;
        }
    }

    /**
     * The cases that are left: for each pan a set of the coins that may be
     * light, and behind it one of those that may be heavy. That all coins are
     * true is held as if a coin with the next number were light: it never lies
     * in a pan, so its weight is never felt, and the numbers of the cases are
     * just those that it would have.
     */
    private static final class Suspects {
        final int[] sets = new int[2 * PANS];

        void copyFrom(Suspects other) {
            for (int i = 0; i < sets.length && i < other.sets.length; i++) {
                sets[i] = other.sets[i];
            }
        }

        void suspectAll(int coins) {
            int all = (1 << coins) - 1;
            for (int i = 0; i < sets.length; i++) {
                sets[i] = i % 2 == 0 ? all | 1 << coins : all;
            }
        }

        boolean has(int k) {
            int v = k / PANS;
            int i = 2 * (k % PANS) + v % 2;
            return i >= 0 && i < sets.length && (sets[i] >> v / 2 & 1) == 1;
        }

        int count() {
            int cases = 0;
            for (int i = 0; i < sets.length; i++) {
                cases += Integer.bitCount(sets[i]);
            }
            return cases;
        }

        int coinMayBe(int c) {
            int may = 0;
            for (int i = 0; i < sets.length; i++) {
                if ((sets[i] & 1 << c) != 0) {
                    may |= i % 2 == 0 ? 1 : 2;
                }
                if ((sets[i] & ~(1 << c)) != 0) {
                    may |= 4;
                }
            }
            return may;
        }

        int pansMayBe() {
            int may = 0;
            for (int i = 0; i < sets.length; i++) {
                if (sets[i] != 0) {
                    may |= 1 << i / 2;
                }
            }
            return may;
        }

        /** Drops the cases in which the scale would have had another outcome. */
        void keep(Scale scale, int outcome) {
            for (int i = 0; i < sets.length; i++) {
                int more = i % 2 == 0 ? -1 : 1;
                int kept = 0;
                if (scale.outcome(i / 2, more, 0) == outcome) {
                    kept |= scale.left;
                }
                if (scale.outcome(i / 2, 0, more) == outcome) {
                    kept |= scale.right;
                }
                if (scale.outcome(i / 2, 0, 0) == outcome) {
                    kept |= ~(scale.left | scale.right);
                }
                sets[i] &= kept;
            }
        }

        /** Counts the cases by the outcome that the scale would have. */
        void sort(Scale scale, Tally tally) {
            tally.clear();
            for (int i = 0; i < sets.length; i++) {
                int more = i % 2 == 0 ? -1 : 1;
                int inLeft = sets[i] & scale.left;
                int inRight = sets[i] & scale.right;
                int beside = sets[i] & ~(scale.left | scale.right);
                tally.add(scale.outcome(i / 2, more, 0), Integer.bitCount(inLeft));
                tally.add(scale.outcome(i / 2, 0, more), Integer.bitCount(inRight));
                tally.add(scale.outcome(i / 2, 0, 0), Integer.bitCount(beside));
            }
        }
    }

    /** The state: everything but the text and the save slots. */
    private static final class Table {
        int coins;
        int hidden;
        int leftArm;
        int rightArm;
        int rightly;
        int wrongly;
        int weighings;
        final int[] record = new int[MOST_WEIGHINGS * KEPT_NUMBERS];
        final Suspects suspects = new Suspects();
        final Scale scale = new Scale();

        void reset() {
            layOut(FIRST_COINS, 0);
            leftArm = FIRST_ARM;
            rightArm = FIRST_ARM;
            rightly = 0;
            wrongly = 0;
        }

        void copyFrom(Table other) {
            coins = other.coins;
            hidden = other.hidden;
            leftArm = other.leftArm;
            rightArm = other.rightArm;
            rightly = other.rightly;
            wrongly = other.wrongly;
            weighings = other.weighings;
            for (int i = 0; i < record.length && i < other.record.length; i++) {
                record[i] = other.record[i];
            }
            suspects.copyFrom(other.suspects);
        }

        void layOut(int newCoins, int k) {
            coins = newCoins;
            hidden = k;
            weighings = 0;
            suspects.suspectAll(newCoins);
        }

        int allCases() {
            return casesOf(coins);
        }

        boolean hasCoin(int c) {
            return c >= 0 && c < coins;
        }

        boolean isFull() {
            return weighings >= MOST_WEIGHINGS;
        }

        boolean canWeigh(int left, int right) {
            int others = ~((1 << coins) - 1);
            return ((left | right) & others) == 0 && (left & right) == 0 && (left | right) != 0;
        }

        /** Changes the arms; false if one is out of range. */
        boolean tryArms(int left, int right) {
            if (!isArm(left) || !isArm(right)) {
                return false;
            }
            leftArm = left;
            rightArm = right;
            return true;
        }

        /** Weighs; false if the sets cannot be weighed, or there are too many weighings. */
        boolean tryWeighing(int left, int right) {
            if (!canWeigh(left, right) || isFull()) {
                return false;
            }
            scale.set(left, right, leftArm, rightArm);
            int outcome = scale.outcomeInCase(hidden);
            suspects.keep(scale, outcome);
            int i = weighings;
            weighings++;
            write(i, LEFT_SET, left);
            write(i, RIGHT_SET, right);
            write(i, OUTCOME, outcome);
            write(i, LEFT_ARM, leftArm);
            write(i, RIGHT_ARM, rightArm);
            write(i, CASES_BEHIND, suspects.count());
            return true;
        }

        int lastOutcome() {
            return kept(weighings - 1, OUTCOME);
        }

        /** Forgets the last weighing; false if there is none. */
        boolean tryForgetting() {
            if (weighings <= 0) {
                return false;
            }
            weighings--;
            suspects.suspectAll(coins);
            for (int i = 0; i < weighings; i++) {
                scale.set(kept(i, LEFT_SET), kept(i, RIGHT_SET), kept(i, LEFT_ARM), kept(i, RIGHT_ARM));
                suspects.keep(scale, kept(i, OUTCOME));
            }
            return true;
        }

        /** Accuses a coin of the table; true if rightly. */
        boolean blameCoin(int c, boolean heavy) {
            return noteBlame(hidden / PANS == 2 * c + (heavy ? 1 : 0));
        }

        /** Accuses a pan; true if rightly. */
        boolean blamePan(int pan) {
            return noteBlame(hidden % PANS == pan);
        }

        boolean noteBlame(boolean right) {
            if (right) {
                rightly++;
            } else {
                wrongly++;
            }
            return right;
        }

        /** How many weighings left as many cases as there were ahead of them. */
        int idleWeighings() {
            int idle = 0;
            int ahead = allCases();
            for (int i = 0; i < weighings; i++) {
                int behind = kept(i, CASES_BEHIND);
                if (behind == ahead) {
                    idle++;
                }
                ahead = behind;
            }
            return idle;
        }

        /** Counts what a weighing would leave. */
        void foresee(int left, int right, Tally tally) {
            foreseeWith(left, right, leftArm, rightArm, tally);
        }

        /** Counts what a weighing would leave with other arms. */
        void foreseeWith(int left, int right, int armOfLeft, int armOfRight, Tally tally) {
            scale.set(left, right, armOfLeft, armOfRight);
            suspects.sort(scale, tally);
        }

        int kept(int i, int what) {
            int place = KEPT_NUMBERS * i + what;
            return place >= 0 && place < record.length ? record[place] : 0;
        }

        void write(int i, int what, int number) {
            int place = KEPT_NUMBERS * i + what;
            if (place >= 0 && place < record.length) {
                record[place] = number;
            }
        }
    }

    /** The states that are remembered, for undo. */
    private static final class History {
        final Table[] ring = new Table[MOST_REMEMBERED];
        int next;
        int count;

        History() {
            for (int i = 0; i < ring.length; i++) {
                ring[i] = new Table();
            }
        }

        void clear() {
            next = 0;
            count = 0;
        }

        void remember(Table table) {
            Table place = placeAt(next);
            if (place == null) {
                return;
            }
            place.copyFrom(table);
            next = (next + 1) % MOST_REMEMBERED;
            count = Math.min(count + 1, MOST_REMEMBERED);
        }

        void takeBack(Table table) {
            int last = (next + MOST_REMEMBERED - 1) % MOST_REMEMBERED;
            Table place = placeAt(last);
            if (place == null || count <= 0) {
                return;
            }
            table.copyFrom(place);
            next = last;
            count--;
        }

        Table placeAt(int i) {
            return i >= 0 && i < ring.length ? ring[i] : null;
        }
    }

    /** A save slot. */
    private static final class Slot {
        final Table saved = new Table();
        boolean filled;
    }
}
