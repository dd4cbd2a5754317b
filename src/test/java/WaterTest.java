/** Promises 6 and 7: water that is bought, and chambers that are worked without a barge. */
public final class WaterTest {
    private static final int[] LOW = {0, 0, 0, 0, 0, 0};
    private static final int[] BRIM = {100, 100, 100, 100, 100, 100};

    public static void main(String[] args) {
        promise6ACoinForTwoAndForOneLeft();
        promise6ComesIntoThePound();
        promise6RunsOverAtOnce();
        promise6RunsOnThroughFullPounds();
        promise6RunsAwayFromThePoundZero();
        promise6NoSuchPound();
        promise6WaterBesideItsRange();
        promise6NotSoManyCoins();
        promise6PoundIsAskedFirst();
        promise6WaterIsAskedAheadOfCoins();
        promise7FillsAndEmpties();
        promise7TellsWhetherItIsFull();
        promise7AlsoInADrought();
        promise7FillingNeedsThirtyTwo();
        promise7EmptyingNeedsNone();
        promise7EmptyingRunsOverAtOnce();
        promise7EmptyingRunsAwayFromThePoundZero();
        promise7NoSuchLock();
        promise7RefusedWithoutAFilling();
        Checks.end();
    }

    private static void promise6ACoinForTwoAndForOneLeft() {
        Checks.sentence(6, "a coin for each 2 of it, and for one that is left");
        int[] waters = {1, 2, 3, 4, 5, 30, 31, 58, 59, 60};
        int[] prices = {1, 1, 2, 2, 3, 15, 16, 29, 30, 30};
        for (int i = 0; i < waters.length; i++) {
            LockBank x = Scenes.withWaters(LOW);
            Checks.due("count(3) ahead", x.count(3), 120);
            Checks.due("water(2, " + waters[i] + ")", x.water(2, waters[i]), 120 - prices[i]);
            Checks.due("count(3)", x.count(3), 120 - prices[i]);
        }
    }

    private static void promise6ComesIntoThePound() {
        Checks.sentence(6, "Buys water for a pound, out of the bank");
        LockBank x = Scenes.withFortyCoins();
        Checks.due("water(3, 1)", x.water(3, 1), 39);
        Checks.duePounds(x, "behind water(3, 1)", 60, 60, 60, 61, 84, 36);
        Checks.due("water(3, 2)", x.water(3, 2), 38);
        Checks.due("water(0, 3)", x.water(0, 3), 36);
        Checks.due("water(5, 40)", x.water(5, 40), 16);
        Checks.duePounds(x, "behind four buys", 63, 60, 60, 63, 84, 76);
        LockBank z = Scenes.withWaters(LOW);
        Checks.due("water(0, 60)", z.water(0, 60), 90);
        Checks.due("water(5, 60)", z.water(5, 60), 60);
        Checks.duePounds(z, "behind the dearest", 60, 0, 0, 0, 0, 60);
    }

    private static void promise6RunsOverAtOnce() {
        Checks.sentence(6, "What runs over, runs at once.");
        LockBank x = Scenes.withFortyCoins();
        x.water(4, 16);
        Checks.duePounds(x, "at the brim", 60, 60, 60, 60, 100, 36);
        Checks.due("pound(4, 2) at the brim", x.pound(4, 2), 0);
        x.water(4, 1);
        Checks.duePounds(x, "behind one beyond the brim", 60, 60, 60, 61, 100, 36);
        Checks.due("pound(4, 2)", x.pound(4, 2), 1);
        Checks.due("pound(3, 2)", x.pound(3, 2), 0);
    }

    private static void promise6RunsOnThroughFullPounds() {
        Checks.sentence(6, "Water beyond 100 runs over: into the next lower pound");
        LockBank x = Scenes.withFortyCoins();
        x.water(4, 17);
        Checks.due("water(4, 60)", x.water(4, 60), 1);
        Checks.duePounds(x, "behind 60 beyond the brim", 60, 60, 81, 100, 100, 36);
        Checks.due("pound(5, 2)", x.pound(5, 2), 0);
        Checks.due("pound(4, 2)", x.pound(4, 2), 61);
        Checks.due("pound(3, 2)", x.pound(3, 2), 21);
        Checks.due("pound(2, 2)", x.pound(2, 2), 0);
        Checks.due("count(6)", x.count(6), 0);
    }

    private static void promise6RunsAwayFromThePoundZero() {
        Checks.sentence(6, "from the pound 0 away");
        LockBank x = Scenes.withFortyCoins();
        x.water(0, 40);
        Checks.due("count(6) at the brim", x.count(6), 0);
        x.water(0, 20);
        Checks.duePounds(x, "behind water(0, 20)", 100, 60, 60, 60, 84, 36);
        Checks.due("pound(0, 2)", x.pound(0, 2), 20);
        Checks.due("count(6)", x.count(6), 20);
        // From the highest pound all the way.
        LockBank z = Scenes.withOneAt(0, 40, 100);
        Scenes.setAllHours(z, 30);
        z.pass(2);
        Checks.duePounds(z, "at the brim", BRIM);
        int away = z.count(6);
        int[] ranOver = new int[6];
        for (int p = 0; p < 6; p++) {
            ranOver[p] = z.pound(p, 2);
        }
        Checks.due("water(5, 5) with 12 coins", z.water(5, 5), 9);
        Checks.duePounds(z, "behind water(5, 5)", BRIM);
        Checks.due("count(6) behind water(5, 5)", z.count(6), away + 5);
        for (int p = 0; p < 6; p++) {
            Checks.due("pound(" + p + ", 2)", z.pound(p, 2), ranOver[p] + 5);
        }
    }

    private static void promise6NoSuchPound() {
        Checks.sentence(6, "Throws IndexOutOfBoundsException if pound is not 0 to 5");
        LockBank x = Scenes.withFortyCoins();
        for (int pound : Checks.outside(0, 5)) {
            Checks.dueNoSuch(x, "water(" + pound + ", 5)", y -> y.water(pound, 5));
        }
        Checks.due("water(0, 2)", x.water(0, 2), 39);
        Checks.due("water(5, 2)", x.water(5, 2), 38);
    }

    private static void promise6WaterBesideItsRange() {
        Checks.sentence(6, "Throws IllegalArgumentException if water is not 1 to 60");
        LockBank x = Scenes.withFortyCoins();
        for (int water : Checks.outside(1, 60)) {
            Checks.dueBadNumber(x, "water(0, " + water + ")", y -> y.water(0, water));
        }
        Checks.dueBadNumber(x, "water(0, -1)", y -> y.water(0, -1));
        Checks.due("water(0, 1)", x.water(0, 1), 39);
        Checks.due("water(0, 60)", x.water(0, 60), 9);
    }

    private static void promise6NotSoManyCoins() {
        Checks.sentence(6, "Throws IllegalStateException if the bank has not so many coins");
        LockBank none = new LockBank();
        Checks.dueBadState(none, "water(0, 1) without coins", y -> y.water(0, 1));
        Checks.dueBadState(none, "water(5, 60) without coins", y -> y.water(5, 60));
        LockBank x = Scenes.withFortyCoins();
        x.water(5, 40);
        Checks.due("count(3)", x.count(3), 20);
        Checks.dueBadState(x, "water(1, 60) with 20", y -> y.water(1, 60));
        Checks.dueBadState(x, "water(1, 41) with 20", y -> y.water(1, 41));
        Checks.due("water(1, 38) with 20", x.water(1, 38), 1);
        Checks.dueBadState(x, "water(1, 3) with 1", y -> y.water(1, 3));
        Checks.due("water(1, 2) with 1", x.water(1, 2), 0);
        Checks.duePounds(x, "behind the last coin", 60, 100, 60, 60, 84, 76);
        Checks.dueBadState(x, "water(1, 1) behind the last coin", y -> y.water(1, 1));
        // All coins of the bank at an odd water.
        LockBank z = Scenes.withFortyCoins();
        z.water(0, 60);
        Checks.due("water(1, 19) with 10", z.water(1, 19), 0);
    }

    private static void promise6PoundIsAskedFirst() {
        Checks.sentence(6, "If several exceptions apply, the one that is named first is thrown.");
        LockBank none = new LockBank();
        for (int pound : Checks.outside(0, 5)) {
            Checks.dueNoSuch(none, "water(" + pound + ", 5) without coins", y -> y.water(pound, 5));
            for (int water : Checks.outside(1, 60)) {
                Checks.dueNoSuch(none, "water(" + pound + ", " + water + ")", y -> y.water(pound, water));
            }
        }
    }

    private static void promise6WaterIsAskedAheadOfCoins() {
        Checks.sentence(6, "If several exceptions apply, the one that is named first is thrown.");
        LockBank none = new LockBank();
        for (int water : Checks.outside(1, 60)) {
            Checks.dueBadNumber(none, "water(3, " + water + ") without coins", y -> y.water(3, water));
        }
    }

    private static void promise7FillsAndEmpties() {
        Checks.sentence(7, "Filling it takes 12 water from the pound k + 1; emptying it brings 12 into the pound k.");
        LockBank x = new LockBank();
        for (int lock = 0; lock < 5; lock++) {
            x.work(lock);
            Checks.due("pound(" + (lock + 1) + ", 0) behind a filling", x.pound(lock + 1, 0), 48);
            Checks.due("lock(" + lock + ", 3)", x.lock(lock, 3), 12);
        }
        Checks.duePounds(x, "behind five fillings", 60, 48, 48, 48, 48, 48);
        for (int lock = 0; lock < 5; lock++) {
            x.work(lock);
            Checks.due("lock(" + lock + ", 2)", x.lock(lock, 2), 0);
            Checks.due("lock(" + lock + ", 3) again", x.lock(lock, 3), 12);
        }
        Checks.duePounds(x, "behind five emptyings", 72, 60, 60, 60, 60, 48);
        Checks.due("count(3): no fee", x.count(3), 0);
        Checks.due("count(0): no hour", x.count(0), 0);
    }

    private static void promise7TellsWhetherItIsFull() {
        Checks.sentence(7, "Returns whether it is full then.");
        LockBank x = new LockBank();
        for (int lock = 0; lock < 5; lock++) {
            Checks.due("work(" + lock + ")", x.work(lock), true);
            Checks.due("lock(" + lock + ", 0)", x.lock(lock, 0), 1);
            Checks.due("count(5)", x.count(5), lock + 1);
        }
        for (int lock = 0; lock < 5; lock++) {
            Checks.due("work(" + lock + ") again", x.work(lock), false);
            Checks.due("lock(" + lock + ", 0) again", x.lock(lock, 0), 0);
            Checks.due("count(5) again", x.count(5), 4 - lock);
        }
    }

    private static void promise7AlsoInADrought() {
        Checks.sentence(7, "Empties or fills a chamber without a barge (also in a drought).");
        LockBank x = new LockBank();
        x.setDrought(true);
        Checks.due("work(2) in a drought", x.work(2), true);
        Checks.due("work(2) again", x.work(2), false);
        Checks.duePounds(x, "behind both", 60, 60, 72, 48, 60, 60);
    }

    private static void promise7FillingNeedsThirtyTwo() {
        Checks.sentence(7, "A filling can be had, if the pound k + 1 has 12 beyond 20 or more (so 32 or more)");
        for (int lock = 0; lock < 5; lock++) {
            LockBank x = Scenes.withOneAt(lock + 1, 32, 0);
            Checks.due("work(" + lock + ") at 32", x.work(lock), true);
            Checks.due("pound(" + (lock + 1) + ", 0)", x.pound(lock + 1, 0), 20);
            LockBank z = Scenes.withOneAt(lock + 1, 31, 100);
            int k = lock;
            Checks.dueBadState(z, "work(" + k + ") at 31", y -> y.work(k) ? 1 : 0);
        }
    }

    private static void promise7EmptyingNeedsNone() {
        Checks.sentence(7, "Throws IllegalStateException if it is empty, and no filling can be had");
        for (int lock = 0; lock < 5; lock++) {
            LockBank x = Scenes.withWaters(LOW, 0, 1, 2, 3, 4);
            Checks.due("work(" + lock + ") of a full one", x.work(lock), false);
            Checks.due("pound(" + lock + ", 0)", x.pound(lock, 0), 12);
        }
    }

    private static void promise7EmptyingRunsOverAtOnce() {
        Checks.sentence(7, "Water beyond 100 runs over: into the next lower pound");
        LockBank x = Scenes.withWaters(new int[] {50, 50, 50, 50, 88, 50}, 4);
        x.work(4);
        Checks.duePounds(x, "at the brim", 50, 50, 50, 50, 100, 50);
        LockBank z = Scenes.withWaters(new int[] {50, 50, 95, 100, 89, 50}, 4);
        z.work(4);
        Checks.duePounds(z, "behind one beyond the brim", 50, 50, 96, 100, 100, 50);
        LockBank v = Scenes.withFortyCoins();
        v.water(4, 12);
        v.work(4);
        v.work(4);
        Checks.duePounds(v, "behind eight beyond the brim", 60, 60, 60, 68, 100, 24);
        Checks.due("pound(4, 2)", v.pound(4, 2), 8);
    }

    private static void promise7EmptyingRunsAwayFromThePoundZero() {
        Checks.sentence(7, "from the pound 0 away");
        LockBank x = Scenes.withWaters(BRIM, 0, 4);
        int away = x.count(6);
        x.work(0);
        Checks.due("count(6) behind work(0)", x.count(6), away + 12);
        x.work(4);
        Checks.due("count(6) behind work(4)", x.count(6), away + 24);
        Checks.duePounds(x, "behind both", BRIM);
    }

    private static void promise7NoSuchLock() {
        Checks.sentence(7, "Throws IndexOutOfBoundsException if lock is not 0 to 4");
        for (LockBank x : new LockBank[] {new LockBank(), Scenes.withWaters(LOW)}) {
            for (int lock : Checks.outside(0, 4)) {
                Checks.dueNoSuch(x, "work(" + lock + ")", y -> y.work(lock) ? 1 : 0);
            }
        }
        LockBank x = new LockBank();
        Checks.due("work(0)", x.work(0), true);
        Checks.due("work(4)", x.work(4), true);
    }

    private static void promise7RefusedWithoutAFilling() {
        Checks.sentence(7, "Throws IllegalStateException if it is empty, and no filling can be had");
        LockBank x = Scenes.withFortyCoins();
        Checks.due("work(4) at 36", x.work(4), true);
        Checks.due("work(4) at 24, full", x.work(4), false);
        Checks.dueBadState(x, "work(4) at 24", y -> y.work(4) ? 1 : 0);
        x.water(5, 7);
        Checks.dueBadState(x, "work(4) at 31", y -> y.work(4) ? 1 : 0);
        Checks.due("lock(4, 0) behind refused calls", x.lock(4, 0), 0);
        Checks.due("lock(4, 3) behind refused calls", x.lock(4, 3), 36);
        x.water(5, 1);
        Checks.due("work(4) at 32", x.work(4), true);
        Checks.due("pound(5, 0)", x.pound(5, 0), 20);
        Checks.due("lock(4, 3)", x.lock(4, 3), 48);
    }
}
