/** Promise 14: how an hour goes, step by step. */
public final class HourTest {
    public static void main(String[] args) {
        passTellsServings();
        passThrows();
        springRunsOverDown();
        millDraws();
        millAtThePoundZero();
        millRunsOver();
        millComesAheadOfLocks();
        springComesAheadOfMill();
        goingDown();
        goingUp();
        fillingNeedsThirtyTwo();
        emptyingRunsOver();
        locksGoFromTheTop();
        oncePerHour();
        oneBargeALock();
        fittingOneFirst();
        feeIsNeeded();
        drought();
        Checks.end();
    }

    private static void passTellsServings() {
        LockBank x = new LockBank();
        Checks.due("pass(1) without barges", x.pass(1), 0);
        Checks.due("pass(60)", x.pass(60), 0);
        Checks.due("count(0)", x.count(0), 61);
        LockBank z = new LockBank();
        z.barge(5, 0, 9);
        z.barge(2, 4, 9);
        z.barge(1, 1, 9);
        Checks.due("pass(1) with two that wait", z.pass(1), 2);
        Checks.due("pass(60) with two that wait", z.pass(60), 5);
        Checks.due("count(2)", z.count(2), 3);
    }

    private static void passThrows() {
        LockBank x = new LockBank();
        x.barge(5, 0, 9);
        for (int hours : new int[] {0, 61, -1, Integer.MIN_VALUE, Integer.MAX_VALUE}) {
            Checks.dueBadNumber(x, "pass(" + hours + ")", y -> y.pass(hours));
        }
    }

    private static void springRunsOverDown() {
        LockBank x = Scenes.withSpring(30);
        x.pass(1);
        Checks.duePounds(x, "behind 30", 60, 60, 60, 60, 60, 90);
        x.pass(1);
        Checks.duePounds(x, "behind 60", 60, 60, 60, 60, 80, 100);
        Checks.due("pound(5, 2)", x.pound(5, 2), 20);
        x.pass(1);
        Checks.duePounds(x, "behind 90", 60, 60, 60, 70, 100, 100);
        Checks.due("pound(5, 2) then", x.pound(5, 2), 50);
        Checks.due("pound(4, 2) then", x.pound(4, 2), 10);
        x.pass(4);
        Checks.duePounds(x, "behind 210", 70, 100, 100, 100, 100, 100);
        x.pass(1);
        Checks.duePounds(x, "behind 240", 100, 100, 100, 100, 100, 100);
        Checks.due("count(6)", x.count(6), 0);
        x.pass(1);
        Checks.duePounds(x, "behind 270", 100, 100, 100, 100, 100, 100);
        Checks.due("pound(0, 2)", x.pound(0, 2), 30);
        Checks.due("pound(1, 2)", x.pound(1, 2), 70);
        Checks.due("count(6) then", x.count(6), 30);
    }

    private static void millDraws() {
        int[] marks = {100, 61, 60, 59, 56, 55, 51, 50, 49, 0};
        int[] draws = {0, 0, 0, 1, 4, 5, 9, 10, 10, 10};
        int[] coins = {0, 0, 0, 0, 0, 1, 1, 2, 2, 2};
        for (int i = 0; i < marks.length; i++) {
            LockBank x = Scenes.withSpring(0);
            x.setMill(3, marks[i]);
            x.pass(1);
            Checks.duePounds(x, "by the mark " + marks[i], 60, 60, 60 + draws[i], 60 - draws[i], 60, 60);
            Checks.due("pound(3, 3) by the mark " + marks[i], x.pound(3, 3), draws[i]);
            Checks.due("count(3) by the mark " + marks[i], x.count(3), coins[i]);
            Checks.due("count(6) by the mark " + marks[i], x.count(6), 0);
        }
    }

    private static void millAtThePoundZero() {
        LockBank x = Scenes.withSpring(0);
        x.setMill(0, 53);
        x.pass(2);
        Checks.duePounds(x, "behind the mill at 0", 53, 60, 60, 60, 60, 60);
        Checks.due("pound(0, 3)", x.pound(0, 3), 7);
        Checks.due("pound(0, 2)", x.pound(0, 2), 0);
        Checks.due("count(6)", x.count(6), 7);
        Checks.due("count(3)", x.count(3), 1);
    }

    private static void millRunsOver() {
        LockBank x = Scenes.withSpring(0);
        x.setMill(3, 0);
        x.pass(4);
        Checks.duePounds(x, "behind 40 drawn", 60, 60, 100, 20, 60, 60);
        Checks.due("pound(2, 2)", x.pound(2, 2), 0);
        x.pass(1);
        Checks.duePounds(x, "behind 50 drawn", 60, 70, 100, 10, 60, 60);
        Checks.due("pound(2, 2) then", x.pound(2, 2), 10);
        x.pass(2);
        Checks.duePounds(x, "behind all drawn", 60, 80, 100, 0, 60, 60);
        Checks.due("count(3)", x.count(3), 12);
    }

    private static void millComesAheadOfLocks() {
        LockBank x = Scenes.withPoundDrawnTo(5, 38, false);
        x.setMill(5, 31);
        x.barge(5, 4, 9);
        Checks.due("lock(4, 4) ahead of the mill", x.lock(4, 4), 0);
        Checks.due("pass(1) when the mill leaves 31", x.pass(1), 0);
        Checks.due("pound(5, 0)", x.pound(5, 0), 31);

        LockBank z = Scenes.withPoundDrawnTo(4, 31, false);
        z.setMill(5, 59);
        z.barge(4, 3, 9);
        Checks.due("lock(3, 4) ahead of the mill", z.lock(3, 4), -1);
        Checks.due("pass(1) when the mill brings 1", z.pass(1), 1);
        Checks.due("pound(4, 0)", z.pound(4, 0), 20);
    }

    private static void springComesAheadOfMill() {
        LockBank x = Scenes.withSpring(7);
        x.setMill(5, 60);
        x.pass(1);
        Checks.due("pound(5, 3)", x.pound(5, 3), 7);
        Checks.due("pound(5, 0)", x.pound(5, 0), 60);
        Checks.due("pound(4, 0)", x.pound(4, 0), 67);
    }

    private static void goingDown() {
        LockBank x = Scenes.withSpring(0);
        x.setFee(3);
        x.barge(4, 2, 9);
        x.pass(1);
        Checks.duePounds(x, "behind one down, empty", 60, 60, 60, 72, 48, 60);
        Checks.due("lock(3, 0)", x.lock(3, 0), 0);
        Checks.due("lock(3, 2)", x.lock(3, 2), 1);
        Checks.due("lock(3, 3)", x.lock(3, 3), 12);
        Checks.due("told(0, 0)", x.told(0, 0), 3);
        Checks.due("told(0, 2)", x.told(0, 2), 6);
        Checks.due("told(0, 3)", x.told(0, 3), 1);
        Checks.due("count(3)", x.count(3), 3);
        x.work(2);
        x.pass(1);
        Checks.duePounds(x, "behind one down, full", 60, 60, 72, 60, 48, 60);
        Checks.due("lock(2, 0)", x.lock(2, 0), 0);
        Checks.due("lock(2, 3)", x.lock(2, 3), 12);
    }

    private static void goingUp() {
        LockBank x = Scenes.withSpring(0);
        x.setFee(2);
        x.barge(1, 3, 9);
        x.pass(1);
        Checks.duePounds(x, "behind one up, empty", 60, 60, 48, 60, 60, 60);
        Checks.due("lock(1, 0)", x.lock(1, 0), 1);
        Checks.due("lock(1, 3)", x.lock(1, 3), 12);
        Checks.due("told(0, 0)", x.told(0, 0), 2);
        Checks.due("told(0, 2)", x.told(0, 2), 7);
        x.work(2);
        x.pass(1);
        Checks.duePounds(x, "behind one up, full", 60, 60, 60, 36, 60, 60);
        Checks.due("lock(2, 0)", x.lock(2, 0), 1);
        Checks.due("lock(2, 3)", x.lock(2, 3), 24);
        Checks.due("lock(2, 2)", x.lock(2, 2), 1);
    }

    private static void fillingNeedsThirtyTwo() {
        for (int water : new int[] {20, 31, 32, 33}) {
            boolean enough = water >= 32;
            dueServed("down, empty", water, false, 5, 4, enough, enough ? water - 12 : water);
            dueServed("down, full", water, true, 5, 4, true, water);
            dueServed("up, empty", water, false, 4, 5, enough, enough ? water - 12 : water);
            dueServed("up, full", water, true, 4, 5, enough, enough ? water - 12 : water);
        }
    }

    private static void dueServed(String way, int water, boolean full, int from, int to, boolean served, int left) {
        LockBank x = Scenes.withPoundDrawnTo(5, water, full);
        x.barge(from, to, 9);
        Checks.due("lock(4, 4) " + way + " with " + water, x.lock(4, 4), served ? 0 : -1);
        Checks.due("pass(1) " + way + " with " + water, x.pass(1), served ? 1 : 0);
        Checks.due("pound(5, 0) " + way + " with " + water, x.pound(5, 0), left);
        Checks.due("told(0, 0) " + way + " with " + water, x.told(0, 0), served ? to : from);
    }

    private static void emptyingRunsOver() {
        LockBank x = Scenes.withSpring(0);
        x.setMill(1, 0);
        x.pass(4);
        x.setMill(-1, 0);
        Checks.duePounds(x, "ahead", 100, 20, 60, 60, 60, 60);
        x.setMill(2, 0);
        x.pass(3);
        x.setMill(-1, 0);
        Checks.duePounds(x, "ahead then", 100, 50, 30, 60, 60, 60);
        x.barge(1, 0, 9);
        x.pass(1);
        Checks.duePounds(x, "behind an emptying", 100, 38, 30, 60, 60, 60);
        Checks.due("count(6)", x.count(6), 12);
        Checks.due("pound(0, 2)", x.pound(0, 2), 12);
        // Up through a full chamber: its water runs over, too.
        x.work(0);
        x.setMill(2, 0);
        x.pass(1);
        x.setMill(-1, 0);
        Checks.duePounds(x, "with a full chamber", 100, 36, 20, 60, 60, 60);
        x.send(0, 1);
        x.pass(1);
        Checks.duePounds(x, "behind one up", 100, 24, 20, 60, 60, 60);
        Checks.due("pound(0, 2) then", x.pound(0, 2), 24);
        Checks.due("lock(0, 0)", x.lock(0, 0), 1);
    }

    private static void locksGoFromTheTop() {
        LockBank x = Scenes.withPoundDrawnTo(4, 20, false);
        x.barge(4, 3, 9);
        x.barge(5, 4, 9);
        Checks.due("lock(3, 4) ahead", x.lock(3, 4), -1);
        Checks.due("pass(1) when the lock 4 brings 12", x.pass(1), 2);
        Checks.duePounds(x, "behind both down", 60, 60, 72, 100, 20, 48);
    }

    private static void oncePerHour() {
        LockBank x = new LockBank();
        x.barge(5, 0, 9);
        for (int pound = 4; pound >= 0; pound--) {
            Checks.due("pass(1) down to " + pound, x.pass(1), 1);
            Checks.due("told(0, 0) down", x.told(0, 0), pound);
        }
        LockBank z = new LockBank();
        z.barge(0, 5, 9);
        for (int pound = 1; pound <= 5; pound++) {
            Checks.due("pass(1) up to " + pound, z.pass(1), 1);
            Checks.due("told(0, 0) up", z.told(0, 0), pound);
        }
        // One that was just served leaves its place to another one in the same hour.
        LockBank v = new LockBank();
        v.barge(5, 3, 9);
        v.barge(4, 3, 9);
        Checks.due("pass(1) of two on the same way", v.pass(1), 2);
        Checks.due("told(0, 0)", v.told(0, 0), 4);
        Checks.due("told(1, 0)", v.told(1, 0), 3);
    }

    private static void oneBargeALock() {
        LockBank x = Scenes.withSpring(30);
        x.barge(3, 2, 9);
        x.barge(3, 2, 9);
        x.barge(3, 2, 9);
        Checks.due("pass(1)", x.pass(1), 1);
        Checks.due("told(0, 3)", x.told(0, 3), 1);
        Checks.due("told(1, 3)", x.told(1, 3), 0);
        Checks.due("pass(1) again", x.pass(1), 1);
        Checks.due("told(1, 3) again", x.told(1, 3), 1);
    }

    private static void fittingOneFirst() {
        LockBank x = Scenes.withSpring(0);
        x.barge(3, 2, 9);
        x.barge(3, 2, 9);
        x.barge(2, 3, 9);
        x.barge(2, 3, 9);
        x.pass(1);
        Checks.due("told(2, 3): empty, so up", x.told(2, 3), 1);
        x.pass(1);
        Checks.due("told(0, 3): full, so down", x.told(0, 3), 1);
        x.pass(1);
        Checks.due("told(3, 3): empty, so up", x.told(3, 3), 1);
        x.pass(1);
        Checks.due("told(1, 3): full, so down", x.told(1, 3), 1);
        Checks.duePounds(x, "behind two each", 60, 60, 84, 36, 60, 60);
    }

    private static void feeIsNeeded() {
        LockBank x = new LockBank();
        x.setFee(5);
        x.barge(5, 4, 4);
        x.barge(5, 4, 5);
        Checks.due("pass(1)", x.pass(1), 1);
        Checks.due("told(0, 0)", x.told(0, 0), 5);
        Checks.due("told(1, 0)", x.told(1, 0), 4);
        Checks.due("told(1, 2)", x.told(1, 2), 0);
        Checks.due("pass(5)", x.pass(5), 0);
        x.setFee(0);
        x.barge(0, 1, 0);
        Checks.due("pass(1) free", x.pass(1), 2);
        Checks.due("told(0, 2) free", x.told(0, 2), 4);
        Checks.due("count(3)", x.count(3), 5);
    }

    private static void drought() {
        LockBank x = Scenes.withSpring(0);
        x.setDrought(true);
        x.barge(5, 4, 9);
        x.barge(1, 2, 9);
        Checks.due("pass(1)", x.pass(1), 1);
        Checks.due("told(0, 3): down, empty", x.told(0, 3), 0);
        Checks.due("told(1, 3): up, empty", x.told(1, 3), 1);
        x.barge(1, 2, 9);
        Checks.due("pass(3)", x.pass(3), 0);
        Checks.due("told(2, 3): up, full", x.told(2, 3), 0);
        x.work(4);
        x.work(1);
        Checks.due("pass(1) behind work", x.pass(1), 2);
        Checks.due("told(0, 3): down, full", x.told(0, 3), 1);
        Checks.due("told(2, 3): up, empty again", x.told(2, 3), 1);
        // One that goes up needs its filling in a drought, too.
        LockBank z = Scenes.withPoundDrawnTo(5, 31, false);
        z.setDrought(true);
        z.barge(4, 5, 9);
        Checks.due("pass(2) at 31", z.pass(2), 0);
        z.setSpring(0, 1);
        Checks.due("pass(1) at 32", z.pass(1), 1);
    }
}
