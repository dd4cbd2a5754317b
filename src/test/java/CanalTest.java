/** Promises 1 to 7: a new object, and the calls of the canal. */
public final class CanalTest {
    public static void main(String[] args) {
        promise1NewObject();
        promise1ObjectsAreApart();
        promise2SetSpring();
        promise2TableGoesRound();
        promise3SetMill();
        promise4SetDrought();
        promise5SetFee();
        promise6WaterCosts();
        promise6WaterRunsOver();
        promise6WaterThrows();
        promise7Work();
        promise7WorkNeedsWater();
        promise7WorkRunsOver();
        Checks.end();
    }

    private static void promise1NewObject() {
        LockBank x = new LockBank();
        int[] counts = {0, 0, 0, 0, 360, 0, 0, 1, 50, -1};
        for (int what = 0; what < counts.length; what++) {
            Checks.due("new: count(" + what + ")", x.count(what), counts[what]);
        }
        int[] pound = {60, 0, 0, 0};
        for (int p = 0; p < 6; p++) {
            for (int what = 0; what < pound.length; what++) {
                Checks.due("new: pound(" + p + ", " + what + ")", x.pound(p, what), pound[what]);
            }
        }
        int[] lock = {0, 0, 0, 0, -1};
        for (int k = 0; k < 5; k++) {
            for (int what = 0; what < lock.length; what++) {
                Checks.due("new: lock(" + k + ", " + what + ")", x.lock(k, what), lock[what]);
            }
        }
        for (int hour = 0; hour < 8; hour++) {
            Checks.due("new: setSpring(" + hour + ", 8)", x.setSpring(hour, 8), 8);
        }
        Checks.due("new: setMill(-1, 50)", x.setMill(-1, 50), 50);
        Checks.due("new: setFee(1)", x.setFee(1), 1);
        Checks.due("new: setDrought(false)", x.setDrought(false), false);
        Checks.dueNoSuch(x, "new: told(0, 0)", y -> y.told(0, 0));
    }

    private static void promise1ObjectsAreApart() {
        LockBank x = new LockBank();
        LockBank y = new LockBank();
        long before = y.digest();
        x.setSpring(0, 1);
        x.setMill(3, 20);
        x.setDrought(true);
        x.setFee(2);
        x.barge(0, 5, 30);
        x.work(1);
        x.pass(5);
        Checks.due("digest() of another object", y.digest(), before);
        Checks.due("digest() of a new object", new LockBank().digest(), before);
    }

    private static void promise2SetSpring() {
        LockBank x = new LockBank();
        Checks.due("setSpring(0, 30)", x.setSpring(0, 30), 8);
        Checks.due("setSpring(0, 0)", x.setSpring(0, 0), 30);
        Checks.due("setSpring(7, 3)", x.setSpring(7, 3), 8);
        Checks.due("setSpring(7, 4)", x.setSpring(7, 4), 3);
        Checks.due("setSpring(1, 0)", x.setSpring(1, 0), 8);
        for (int hour : new int[] {-1, 8, Integer.MIN_VALUE, Integer.MAX_VALUE}) {
            Checks.dueNoSuch(x, "setSpring(" + hour + ", 5)", y -> y.setSpring(hour, 5));
            Checks.dueNoSuch(x, "setSpring(" + hour + ", 31)", y -> y.setSpring(hour, 31));
        }
        for (int by : new int[] {-1, 31, Integer.MIN_VALUE, Integer.MAX_VALUE}) {
            Checks.dueBadNumber(x, "setSpring(7, " + by + ")", y -> y.setSpring(7, by));
        }
        Checks.due("setSpring(7, 4) again", x.setSpring(7, 4), 4);
    }

    private static void promise2TableGoesRound() {
        LockBank x = new LockBank();
        int[] table = {1, 2, 3, 4, 0, 6, 7, 5};
        for (int hour = 0; hour < 8; hour++) {
            x.setSpring(hour, table[hour]);
        }
        int water = 60;
        for (int hour = 0; hour < 11; hour++) {
            x.pass(1);
            water += table[hour % 8];
            Checks.due("pound(5, 0) behind hour " + hour, x.pound(5, 0), water);
        }
        x.setSpring(3, 0);
        x.pass(1);
        Checks.due("pound(5, 0) behind a changed hour", x.pound(5, 0), water);
    }

    private static void promise3SetMill() {
        LockBank x = new LockBank();
        Checks.due("setMill(0, 0)", x.setMill(0, 0), 50);
        Checks.due("count(9) at 0", x.count(9), 0);
        Checks.due("setMill(5, 100)", x.setMill(5, 100), 0);
        Checks.due("count(9) at 5", x.count(9), 5);
        Checks.due("count(8) at 5", x.count(8), 100);
        Checks.due("setMill(-1, 70)", x.setMill(-1, 70), 100);
        Checks.due("count(9) at none", x.count(9), -1);
        Checks.due("count(8) at none", x.count(8), 70);
        for (int pound : new int[] {-2, 6, Integer.MIN_VALUE, Integer.MAX_VALUE}) {
            Checks.dueNoSuch(x, "setMill(" + pound + ", 50)", y -> y.setMill(pound, 50));
            Checks.dueNoSuch(x, "setMill(" + pound + ", 101)", y -> y.setMill(pound, 101));
        }
        for (int mark : new int[] {-1, 101, Integer.MIN_VALUE, Integer.MAX_VALUE}) {
            Checks.dueBadNumber(x, "setMill(2, " + mark + ")", y -> y.setMill(2, mark));
            Checks.dueBadNumber(x, "setMill(-1, " + mark + ")", y -> y.setMill(-1, mark));
        }
        x.pass(3);
        Checks.due("count(3) without a mill", x.count(3), 0);
    }

    private static void promise4SetDrought() {
        LockBank x = new LockBank();
        Checks.due("setDrought(false)", x.setDrought(false), false);
        Checks.due("setDrought(true)", x.setDrought(true), false);
        Checks.due("setDrought(true) again", x.setDrought(true), true);
        x.barge(5, 4, 9);
        Checks.due("lock(4, 4) in a drought", x.lock(4, 4), -1);
        Checks.due("setDrought(false) again", x.setDrought(false), true);
        Checks.due("lock(4, 4) without", x.lock(4, 4), 0);
    }

    private static void promise5SetFee() {
        LockBank x = new LockBank();
        Checks.due("setFee(0)", x.setFee(0), 1);
        Checks.due("setFee(20)", x.setFee(20), 0);
        Checks.due("count(7)", x.count(7), 20);
        for (int fee : new int[] {-1, 21, Integer.MIN_VALUE, Integer.MAX_VALUE}) {
            Checks.dueBadNumber(x, "setFee(" + fee + ")", y -> y.setFee(fee));
        }
        x.barge(5, 4, 45);
        x.pass(1);
        Checks.due("told(0, 2) behind a fee of 20", x.told(0, 2), 25);
        Checks.due("count(3) behind a fee of 20", x.count(3), 20);
    }

    private static void promise6WaterCosts() {
        LockBank x = Scenes.withFortyCoins();
        Checks.due("count(3)", x.count(3), 40);
        Checks.due("water(3, 1)", x.water(3, 1), 39);
        Checks.duePounds(x, "behind water(3, 1)", 60, 60, 60, 61, 84, 36);
        Checks.due("water(3, 2)", x.water(3, 2), 38);
        Checks.due("water(0, 3)", x.water(0, 3), 36);
        Checks.due("water(5, 40)", x.water(5, 40), 16);
        Checks.duePounds(x, "behind four buys", 63, 60, 60, 63, 84, 76);
        Checks.dueBadState(x, "water(1, 33)", y -> y.water(1, 33));
        Checks.due("water(1, 32)", x.water(1, 32), 0);
        Checks.duePounds(x, "behind the last coin", 63, 92, 60, 63, 84, 76);
        Checks.dueBadState(x, "water(1, 1)", y -> y.water(1, 1));
    }

    private static void promise6WaterRunsOver() {
        LockBank x = Scenes.withFortyCoins();
        x.water(4, 16);
        Checks.due("pound(4, 2) at the brim", x.pound(4, 2), 0);
        x.water(4, 1);
        Checks.duePounds(x, "behind one beyond the brim", 60, 60, 60, 61, 100, 36);
        Checks.due("pound(4, 2)", x.pound(4, 2), 1);
        Checks.due("pound(3, 2)", x.pound(3, 2), 0);
        Checks.due("water(4, 60)", x.water(4, 60), 1);
        Checks.duePounds(x, "behind 60 beyond the brim", 60, 60, 81, 100, 100, 36);
        Checks.due("pound(4, 2) then", x.pound(4, 2), 61);
        Checks.due("pound(3, 2) then", x.pound(3, 2), 21);
        Checks.due("pound(2, 2) then", x.pound(2, 2), 0);

        LockBank z = Scenes.withFortyCoins();
        z.water(0, 60);
        Checks.duePounds(z, "behind water(0, 60)", 100, 60, 60, 60, 84, 36);
        Checks.due("pound(0, 2)", z.pound(0, 2), 20);
        Checks.due("count(6)", z.count(6), 20);
    }

    private static void promise6WaterThrows() {
        for (LockBank x : new LockBank[] {new LockBank(), Scenes.withFortyCoins()}) {
            for (int pound : new int[] {-1, 6, Integer.MIN_VALUE, Integer.MAX_VALUE}) {
                Checks.dueNoSuch(x, "water(" + pound + ", 5)", y -> y.water(pound, 5));
                Checks.dueNoSuch(x, "water(" + pound + ", 0)", y -> y.water(pound, 0));
            }
            for (int water : new int[] {0, 61, -1, Integer.MIN_VALUE, Integer.MAX_VALUE}) {
                Checks.dueBadNumber(x, "water(2, " + water + ")", y -> y.water(2, water));
            }
        }
        Checks.dueBadState(new LockBank(), "water(0, 1) without coins", y -> y.water(0, 1));
        Checks.dueBadState(new LockBank(), "water(5, 60) without coins", y -> y.water(5, 60));
    }

    private static void promise7Work() {
        LockBank x = new LockBank();
        x.setDrought(true);
        for (int lock = 0; lock < 5; lock++) {
            Checks.due("work(" + lock + ")", x.work(lock), true);
            Checks.due("lock(" + lock + ", 0)", x.lock(lock, 0), 1);
            Checks.due("lock(" + lock + ", 3)", x.lock(lock, 3), 12);
        }
        Checks.duePounds(x, "behind five fillings", 60, 48, 48, 48, 48, 48);
        Checks.due("count(5)", x.count(5), 5);
        for (int lock = 0; lock < 5; lock++) {
            Checks.due("work(" + lock + ") again", x.work(lock), false);
            Checks.due("lock(" + lock + ", 0) again", x.lock(lock, 0), 0);
            Checks.due("lock(" + lock + ", 2)", x.lock(lock, 2), 0);
            Checks.due("lock(" + lock + ", 3) again", x.lock(lock, 3), 12);
        }
        Checks.duePounds(x, "behind five emptyings", 72, 60, 60, 60, 60, 48);
        Checks.due("count(3)", x.count(3), 0);
        Checks.due("count(0)", x.count(0), 0);
        for (int lock : new int[] {-1, 5, Integer.MIN_VALUE, Integer.MAX_VALUE}) {
            Checks.dueNoSuch(x, "work(" + lock + ")", y -> y.work(lock) ? 1 : 0);
        }
    }

    private static void promise7WorkNeedsWater() {
        LockBank x = Scenes.withFortyCoins();
        Checks.due("work(4) at 36", x.work(4), true);
        Checks.due("work(4) at 24, full", x.work(4), false);
        Checks.dueBadState(x, "work(4) at 24", y -> y.work(4) ? 1 : 0);
        x.water(5, 7);
        Checks.dueBadState(x, "work(4) at 31", y -> y.work(4) ? 1 : 0);
        x.water(5, 1);
        Checks.due("work(4) at 32", x.work(4), true);
        Checks.due("pound(5, 0)", x.pound(5, 0), 20);
        Checks.due("lock(4, 3)", x.lock(4, 3), 48);
    }

    private static void promise7WorkRunsOver() {
        LockBank x = Scenes.withFortyCoins();
        x.water(4, 12);
        x.work(4);
        Checks.duePounds(x, "ahead of the emptying", 60, 60, 60, 60, 96, 24);
        x.work(4);
        Checks.duePounds(x, "behind the emptying", 60, 60, 60, 68, 100, 24);
        Checks.due("pound(4, 2)", x.pound(4, 2), 8);
    }
}
