/** A bank of locks by a mill and a canal. */
public final class LockBank {
    private static final int POUNDS = 6;
    private static final int TOP_POUND = POUNDS - 1;
    private static final int BRIM = 100;
    private static final int FIRST_LEVEL = 60;

    private static final int TABLE_HOURS = 8;
    private static final int FIRST_SPRING = 8;
    private static final int MAX_SPRING = 30;

    private static final int LOCKS = 5;
    private static final int CHAMBER = 12;
    private static final int LEVEL_TO_FILL = 20 + CHAMBER;

    private static final int NONE = -1;
    private static final int FIRST_MARK = 50;
    private static final int MAX_MARK = 100;
    private static final int MARK_STEP = 10;
    private static final int MILL_DRAWS = 10;
    private static final int WATER_PER_MILL_COIN = 5;

    private static final int FIRST_FEE = 1;
    private static final int MAX_FEE = 20;
    private static final int MAX_BOUGHT = 60;

    private static final int MAX_BARGES = 10;
    private static final int MAX_COINS = 99;

    private static final int MAX_HOURS = 60;
    private static final int MAX_ADVISED_HOURS = 40;
    private static final int MAX_ARRIVAL = 120;

    private static final int POUND_TELLS = 4;
    private static final int LOCK_TELLS = 5;
    private static final int BARGE_TELLS = 5;
    private static final int COUNTS = 10;
    private static final int FIRST_FORESEEN = 2;
    private static final int LAST_FORESEEN = 6;

    private static final long DIGEST_START = 1453L;
    private static final long DIGEST_FACTOR = 31L;

    private final Canal canal;

    // One canal for all looks ahead, so that none of them makes an object.
    private final Canal trial;

    /** Creates a canal without a mill and barges, in the hour 0. */
    public LockBank() {
        canal = new Canal();
        trial = new Canal();
    }

    // ---- the canal

    /** Sets the water of the spring in an hour of the table; returns that before. */
    public int setSpring(int hour, int by) throws IndexOutOfBoundsException, IllegalArgumentException {
        requireIndex(hour, 0, TABLE_HOURS - 1);
        requireArgument(by, 0, MAX_SPRING);
        int before = canal.spring[hour];
        canal.spring[hour] = by;
        return before;
    }

    /** Puts the mill at a pound (-1: at none) with a mark; returns the mark before. */
    public int setMill(int pound, int mark) throws IndexOutOfBoundsException, IllegalArgumentException {
        requireIndex(pound, NONE, POUNDS - 1);
        requireArgument(mark, 0, MAX_MARK);
        int before = canal.mark;
        canal.millPound = pound;
        canal.mark = mark;
        return before;
    }

    /** Sets whether there is a drought; returns whether there was one. */
    public boolean setDrought(boolean is) {
        boolean before = canal.drought;
        canal.drought = is;
        return before;
    }

    /** Sets the fee; returns the one before. */
    public int setFee(int fee) throws IllegalArgumentException {
        requireArgument(fee, 0, MAX_FEE);
        int before = canal.fee;
        canal.fee = fee;
        return before;
    }

    /** Buys water for a pound, out of the bank; returns the coins of the bank then. */
    public int water(int pound, int water)
            throws IndexOutOfBoundsException, IllegalArgumentException, IllegalStateException {
        requireIndex(pound, 0, POUNDS - 1);
        requireArgument(water, 1, MAX_BOUGHT);
        int price = (water + 1) / 2;
        if (canal.bank < price) {
            throw new IllegalStateException("the bank has not so many coins");
        }
        canal.bank -= price;
        canal.pour(pound, water);
        return canal.bank;
    }

    /** Empties or fills a chamber without a barge; returns whether it is full then. */
    public boolean work(int lock) throws IndexOutOfBoundsException, IllegalStateException {
        requireIndex(lock, 0, LOCKS - 1);
        if (!canal.full[lock] && !canal.canFill(lock)) {
            throw new IllegalStateException("no filling can be had");
        }
        canal.turnChamber(lock);
        return canal.full[lock];
    }

    // ---- barges

    /** Lets a new barge come to a pound, with a goal and coins; returns its number. */
    public int barge(int from, int to, int coins)
            throws IndexOutOfBoundsException, IllegalArgumentException, IllegalStateException {
        requireIndex(from, 0, POUNDS - 1);
        requireIndex(to, 0, POUNDS - 1);
        requireArgument(coins, 0, MAX_COINS);
        int number = canal.barges;
        if (number >= MAX_BARGES) {
            throw new IllegalStateException("no more barges can come");
        }
        canal.at[number] = from;
        canal.goal[number] = to;
        canal.purse[number] = coins;
        canal.barges = number + 1;
        return number;
    }

    /** Gives a barge another goal; returns the one before. */
    public int send(int barge, int to) throws IndexOutOfBoundsException {
        requireIndex(barge, 0, canal.barges - 1);
        requireIndex(to, 0, POUNDS - 1);
        int before = canal.goal[barge];
        canal.goal[barge] = to;
        return before;
    }

    /** Tells of a barge: 0 pound, 1 goal, 2 coins, 3 how often served, 4 the lock at which it waits. */
    public int told(int barge, int what) throws IndexOutOfBoundsException {
        requireIndex(barge, 0, canal.barges - 1);
        requireIndex(what, 0, BARGE_TELLS - 1);
        return canal.tellBarge(barge, what);
    }

    // ---- what there is

    /** Tells of a pound: 0 water, 1 barges, 2 what ran over, 3 what the mill drew. */
    public int pound(int pound, int what) throws IndexOutOfBoundsException {
        requireIndex(pound, 0, POUNDS - 1);
        requireIndex(what, 0, POUND_TELLS - 1);
        return canal.tellPound(pound, what);
    }

    /** Tells of a lock: 0 full, 1 barges that wait, 2 barges served, 3 water of fillings, 4 the next barge. */
    public int lock(int lock, int what) throws IndexOutOfBoundsException {
        requireIndex(lock, 0, LOCKS - 1);
        requireIndex(what, 0, LOCK_TELLS - 1);
        return canal.tellLock(lock, what);
    }

    /**
     * Tells of the whole: 0 hour, 1 barges, 2 those that have come, 3 coins of the bank, 4 water,
     * 5 full chambers, 6 water away from the pound 0, 7 fee, 8 mark of the mill, 9 its pound.
     */
    public int count(int what) throws IndexOutOfBoundsException {
        requireIndex(what, 0, COUNTS - 1);
        return canal.tellWhole(what);
    }

    // ---- hours and what would be

    /** Lets hours go by; returns how often barges are served in them. */
    public int pass(int hours) throws IllegalArgumentException {
        requireArgument(hours, 1, MAX_HOURS);
        return canal.goHours(hours);
    }

    /** Returns behind how many hours a barge has come, if nothing is done; -1 if not by 120. */
    public int arrives(int barge) throws IndexOutOfBoundsException {
        requireIndex(barge, 0, canal.barges - 1);
        trial.copyFrom(canal);
        for (int hours = 0; hours < MAX_ARRIVAL; hours++) {
            if (trial.hasCome(barge)) {
                return hours;
            }
            trial.goHour();
        }
        return trial.hasCome(barge) ? MAX_ARRIVAL : NONE;
    }

    /** Returns what count() would tell behind so many hours, if nothing is done. */
    public int foresee(int hours, int what) throws IllegalArgumentException, IndexOutOfBoundsException {
        requireArgument(hours, 1, MAX_HOURS);
        requireIndex(what, FIRST_FORESEEN, LAST_FORESEEN);
        trial.copyFrom(canal);
        trial.goHours(hours);
        return trial.tellWhole(what);
    }

    /** Returns the mark of the mill by which the bank has the most coins behind so many hours. */
    public int advise(int hours) throws IllegalArgumentException {
        requireArgument(hours, 1, MAX_ADVISED_HOURS);
        int best = 0;
        int most = 0;
        for (int mark = 0; mark <= MAX_MARK; mark += MARK_STEP) {
            trial.copyFrom(canal);
            trial.mark = mark;
            trial.goHours(hours);
            // Not only more but as many: of several marks the greatest one is asked for.
            if (trial.bank >= most) {
                most = trial.bank;
                best = mark;
            }
        }
        return best;
    }

    /** Returns how many hours go by ahead of the first without a locking, of the next 60; -1 if none. */
    public int stops() {
        trial.copyFrom(canal);
        for (int hours = 0; hours < MAX_HOURS; hours++) {
            if (trial.goHour() == 0) {
                return hours;
            }
        }
        return NONE;
    }

    /** Returns the mean of the water of all pounds. */
    public double mean() {
        return (double) canal.waterOfAll() / POUNDS;
    }

    /** Returns a checksum of all that can be told. */
    public long digest() {
        long d = DIGEST_START;
        for (int what = 0; what < COUNTS; what++) {
            d = mix(d, canal.tellWhole(what));
        }
        d = mix(d, canal.drought ? 1 : 0);
        for (int hour = 0; hour < TABLE_HOURS; hour++) {
            d = mix(d, canal.spring[hour]);
        }
        for (int p = 0; p < POUNDS; p++) {
            for (int what = 0; what < POUND_TELLS; what++) {
                d = mix(d, canal.tellPound(p, what));
            }
        }
        for (int k = 0; k < LOCKS; k++) {
            for (int what = 0; what < LOCK_TELLS; what++) {
                d = mix(d, canal.tellLock(k, what));
            }
        }
        for (int b = 0; b < canal.barges; b++) {
            for (int what = 0; what < BARGE_TELLS; what++) {
                d = mix(d, canal.tellBarge(b, what));
            }
        }
        return d;
    }

    private static long mix(long d, int x) {
        return d * DIGEST_FACTOR + x;
    }

    private static void requireIndex(int index, int least, int greatest) {
        if (index < least || index > greatest) {
            throw new IndexOutOfBoundsException("there is no such one");
        }
    }

    private static void requireArgument(int value, int least, int greatest) {
        if (value < least || value > greatest) {
            throw new IllegalArgumentException("the number is out of its range");
        }
    }

    /** All that changes with the calls and the hours; a second one serves to look ahead. */
    private static final class Canal {
        int hour;
        int bank;
        int fee = FIRST_FEE;
        boolean drought;
        int millPound = NONE;
        int mark = FIRST_MARK;
        final int[] spring = new int[TABLE_HOURS];

        // One element a pound.
        final int[] level = new int[POUNDS];
        final int[] ranOver = new int[POUNDS];
        final int[] drawn = new int[POUNDS];

        // One element a lock.
        final boolean[] full = new boolean[LOCKS];
        final int[] lockings = new int[LOCKS];
        final int[] filled = new int[LOCKS];

        // One element a barge, by its number.
        int barges;
        final int[] at = new int[MAX_BARGES];
        final int[] goal = new int[MAX_BARGES];
        final int[] purse = new int[MAX_BARGES];
        final int[] served = new int[MAX_BARGES];

        Canal() {
            for (int i = 0; i < TABLE_HOURS; i++) {
                spring[i] = FIRST_SPRING;
            }
            for (int p = 0; p < POUNDS; p++) {
                level[p] = FIRST_LEVEL;
            }
        }

        void copyFrom(Canal other) {
            hour = other.hour;
            bank = other.bank;
            fee = other.fee;
            drought = other.drought;
            millPound = other.millPound;
            mark = other.mark;
            System.arraycopy(other.spring, 0, spring, 0, TABLE_HOURS);
            System.arraycopy(other.level, 0, level, 0, POUNDS);
            System.arraycopy(other.ranOver, 0, ranOver, 0, POUNDS);
            System.arraycopy(other.drawn, 0, drawn, 0, POUNDS);
            for (int k = 0; k < LOCKS; k++) {
                full[k] = other.full[k];
            }
            System.arraycopy(other.lockings, 0, lockings, 0, LOCKS);
            System.arraycopy(other.filled, 0, filled, 0, LOCKS);
            barges = other.barges;
            System.arraycopy(other.at, 0, at, 0, MAX_BARGES);
            System.arraycopy(other.goal, 0, goal, 0, MAX_BARGES);
            System.arraycopy(other.purse, 0, purse, 0, MAX_BARGES);
            System.arraycopy(other.served, 0, served, 0, MAX_BARGES);
        }

        /** Lets hours go by; returns how often barges are served in them. */
        int goHours(int hours) {
            int servings = 0;
            for (int i = 0; i < hours; i++) {
                servings += goHour();
            }
            return servings;
        }

        /** Lets one hour go by; returns how many barges are served in it. */
        int goHour() {
            pour(TOP_POUND, spring[Math.floorMod(hour, TABLE_HOURS)]);
            turnMill();
            int servings = 0;
            int servedBarges = 0;
            for (int k = LOCKS - 1; k >= 0; k--) {
                int b = nextBarge(k, servedBarges);
                if (b != NONE) {
                    serve(k, b);
                    servedBarges |= 1 << b;
                    servings++;
                }
            }
            hour++;
            return servings;
        }

        /** Brings water into a pound, or away with -1; what is beyond a brim runs on at once. */
        void pour(int pound, int amount) {
            int coming = amount;
            for (int p = pound; p >= 0 && coming > 0; p--) {
                int reached = level[p] + coming;
                level[p] = Math.min(reached, BRIM);
                coming = reached - level[p];
                ranOver[p] += coming;
            }
        }

        void turnMill() {
            int p = millPound;
            if (p == NONE || level[p] <= mark) {
                return;
            }
            int amount = Math.min(level[p] - mark, MILL_DRAWS);
            level[p] -= amount;
            drawn[p] += amount;
            bank += amount / WATER_PER_MILL_COIN;
            pour(p - 1, amount);
        }

        /**
         * The barge that a lock would serve, -1 for none.
         *
         * @param servedBarges a bit for each barge that has been served in this hour
         */
        int nextBarge(int k, int servedBarges) {
            int first = NONE;
            for (int b = 0; b < barges; b++) {
                boolean waits = waitsAt(b) == k && (servedBarges >> b & 1) == 0;
                if (waits && canServe(k, b)) {
                    if (fits(k, b)) {
                        return b;
                    }
                    if (first == NONE) {
                        first = b;
                    }
                }
            }
            return first;
        }

        boolean canServe(int k, int b) {
            if (purse[b] < fee) {
                return false;
            }
            if (drought && !fits(k, b)) {
                return false;
            }
            boolean needsFilling = !goesDown(b) || !full[k];
            return !needsFilling || canFill(k);
        }

        boolean canFill(int k) {
            return level[k + 1] >= LEVEL_TO_FILL;
        }

        boolean fits(int k, int b) {
            return full[k] == goesDown(b);
        }

        boolean goesDown(int b) {
            return goal[b] < at[b];
        }

        boolean hasCome(int b) {
            return at[b] == goal[b];
        }

        int waitsAt(int b) {
            if (hasCome(b)) {
                return NONE;
            }
            return goesDown(b) ? at[b] - 1 : at[b];
        }

        void serve(int k, int b) {
            if (!fits(k, b)) {
                turnChamber(k);
            }
            turnChamber(k);
            at[b] = goesDown(b) ? k : k + 1;
            purse[b] -= fee;
            bank += fee;
            served[b]++;
            lockings[k]++;
        }

        /** Empties a full chamber, fills an empty one. */
        void turnChamber(int k) {
            if (full[k]) {
                full[k] = false;
                pour(k, CHAMBER);
            } else {
                full[k] = true;
                level[k + 1] -= CHAMBER;
                filled[k] += CHAMBER;
            }
        }

        int tellBarge(int b, int what) {
            switch (what) {
                case 0: return at[b];
                case 1: return goal[b];
                case 2: return purse[b];
                case 3: return served[b];
                default: return waitsAt(b);
            }
        }

        int tellPound(int p, int what) {
            switch (what) {
                case 0: return level[p];
                case 1: return bargesAt(p);
                case 2: return ranOver[p];
                default: return drawn[p];
            }
        }

        int tellLock(int k, int what) {
            switch (what) {
                case 0: return full[k] ? 1 : 0;
                case 1: return bargesWaitingAt(k);
                case 2: return lockings[k];
                case 3: return filled[k];
                default: return nextBarge(k, 0);
            }
        }

        int tellWhole(int what) {
            switch (what) {
                case 0: return hour;
                case 1: return barges;
                case 2: return bargesThatHaveCome();
                case 3: return bank;
                case 4: return waterOfAll();
                case 5: return fullChambers();
                case 6: return ranOver[0] + drawn[0];
                case 7: return fee;
                case 8: return mark;
                default: return millPound;
            }
        }

        int bargesAt(int p) {
            int n = 0;
            for (int b = 0; b < barges; b++) {
                n += at[b] == p ? 1 : 0;
            }
            return n;
        }

        int bargesWaitingAt(int k) {
            int n = 0;
            for (int b = 0; b < barges; b++) {
                n += waitsAt(b) == k ? 1 : 0;
            }
            return n;
        }

        int bargesThatHaveCome() {
            int n = 0;
            for (int b = 0; b < barges; b++) {
                n += hasCome(b) ? 1 : 0;
            }
            return n;
        }

        int fullChambers() {
            int n = 0;
            for (int k = 0; k < LOCKS; k++) {
                n += full[k] ? 1 : 0;
            }
            return n;
        }

        int waterOfAll() {
            int sum = 0;
            for (int p = 0; p < POUNDS; p++) {
                sum += level[p];
            }
            return sum;
        }
    }
}
