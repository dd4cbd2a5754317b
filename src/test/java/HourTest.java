/** Promise 14: hours that go by, and how an hour goes, step by step. */
public final class HourTest {
    private static final int[] BRIM = {100, 100, 100, 100, 100, 100};

    public static void main(String[] args) {
        promise14HoursBesideTheirRange();
        promise14FromOneToSixtyHours();
        promise14ReturnsHowOftenBargesAreServed();
        promise14TheHourIsOneGreater();
        promise14SpringToTheBrim();
        promise14SpringRunsOnDown();
        promise14SpringRunsOverAheadOfTheMill();
        promise14SpringComesAheadOfTheMill();
        promise14SpringComesAheadOfTheLocks();
        promise14MillDrawsBeyondTheMark();
        promise14MillAtNone();
        promise14MillAtThePoundZero();
        promise14MillToTheBrim();
        promise14MillRunsOnDown();
        promise14MillRunsOverAheadOfTheLocks();
        promise14MillPaysAFifthCut();
        promise14MillComesAheadOfTheLocks();
        promise14LocksGoFromTheTop();
        promise14OneBargeALock();
        promise14OnceInAnHour();
        promise14NoneThatHasCome();
        promise14FeeIsNeeded();
        promise14FillingNeedsThirtyTwo();
        promise14FillingIsAskedAheadOfTheEmptying();
        promise14DroughtServesWhatFits();
        promise14DroughtNeedsTheFillingToo();
        promise14FirstThatFits();
        promise14FirstOfAllIfNoneFits();
        promise14FirstThatCanBeServed();
        promise14GoingDown();
        promise14GoingUp();
        promise14EmptyingToTheBrim();
        promise14EmptyingRunsOverAtOnce();
        promise14EmptyingRunsAwayFromThePoundZero();
        Checks.end();
    }

    private static void promise14HoursBesideTheirRange() {
        Checks.sentence(14, "Throws IllegalArgumentException if hours is not 1 to 60");
        LockBank x = new LockBank();
        x.barge(5, 0, 9);
        for (int hours : Checks.outside(1, 60)) {
            Checks.dueBadNumber(x, "pass(" + hours + ")", y -> y.pass(hours));
        }
        Checks.dueBadNumber(x, "pass(-1)", y -> y.pass(-1));
        Checks.due("count(0) behind refused calls", x.count(0), 0);
    }

    private static void promise14FromOneToSixtyHours() {
        Checks.sentence(14, "Lets hours go by.");
        LockBank x = new LockBank();
        LockBank z = new LockBank();
        for (LockBank y : new LockBank[] {x, z}) {
            y.setMill(2, 40);
            y.barge(5, 0, 9);
            y.barge(1, 4, 2);
        }
        x.pass(60);
        for (int i = 0; i < 60; i++) {
            z.pass(1);
        }
        Checks.due("count(0) behind pass(60)", x.count(0), 60);
        Checks.due("count(0) behind 60 times pass(1)", z.count(0), 60);
        Checks.due("digest() of both", x.digest(), z.digest());
    }

    private static void promise14ReturnsHowOftenBargesAreServed() {
        Checks.sentence(14, "Returns how often barges are served in them.");
        LockBank x = new LockBank();
        Checks.due("pass(1) without barges", x.pass(1), 0);
        Checks.due("pass(60) without barges", x.pass(60), 0);
        x.barge(5, 0, 9);
        x.barge(2, 4, 9);
        x.barge(1, 1, 9);
        Checks.due("pass(1) with two that wait", x.pass(1), 2);
        Checks.due("pass(60) with two that wait", x.pass(60), 5);
        Checks.due("pass(60) when all have come", x.pass(60), 0);
        LockBank z = Scenes.withWaters(BRIM, 0, 1, 2, 3, 4);
        for (int k = 0; k < 5; k++) {
            z.barge(k + 1, k, 9);
            z.barge(k + 1, k, 9);
        }
        Checks.due("pass(1) with all five locks", z.pass(1), 5);
        Checks.due("pass(1) with all five locks, empty", z.pass(1), 5);
    }

    private static void promise14TheHourIsOneGreater() {
        Checks.sentence(14, "The hour is 1 greater.");
        LockBank x = new LockBank();
        x.pass(1);
        Checks.due("count(0)", x.count(0), 1);
        x.pass(7);
        Checks.due("count(0) behind the table's end", x.count(0), 8);
        for (int i = 0; i < 500; i++) {
            x.pass(60);
        }
        Checks.due("count(0) far on", x.count(0), 30008);
    }

    private static void promise14SpringToTheBrim() {
        Checks.sentence(14, "Spring: its water comes into the pound 5");
        LockBank x = Scenes.withOneAt(5, 70, 50);
        x.setSpring(0, 30);
        x.pass(1);
        Checks.duePounds(x, "at the brim", 50, 50, 50, 50, 50, 100);
        LockBank z = Scenes.withOneAt(5, 71, 50);
        z.setSpring(0, 30);
        z.pass(1);
        Checks.duePounds(z, "behind one beyond the brim", 50, 50, 50, 50, 51, 100);
        LockBank v = Scenes.withOneAt(5, 100, 50);
        v.pass(1);
        Checks.duePounds(v, "without a spring", 50, 50, 50, 50, 50, 100);
    }

    private static void promise14SpringRunsOnDown() {
        Checks.sentence(14, "what runs over, from the pound 5 down, runs at once");
        LockBank x = Scenes.withWaters(new int[] {10, 100, 99, 100, 100, 95});
        int[] ranOver = new int[6];
        for (int p = 0; p < 6; p++) {
            ranOver[p] = x.pound(p, 2);
        }
        x.setSpring(0, 30);
        x.pass(1);
        Checks.duePounds(x, "behind 25 beyond the brim", 34, 100, 100, 100, 100, 100);
        int[] due = {0, 24, 24, 25, 25, 25};
        for (int p = 0; p < 6; p++) {
            Checks.due("pound(" + p + ", 2) more", x.pound(p, 2) - ranOver[p], due[p]);
        }
        LockBank z = Scenes.withSpring(30);
        z.pass(8);
        Checks.duePounds(z, "behind 240", BRIM);
        Checks.due("count(6) behind 240", z.count(6), 0);
        z.pass(1);
        Checks.duePounds(z, "behind 270", BRIM);
        Checks.due("count(6) behind 270", z.count(6), 30);
        Checks.due("pound(0, 2) behind 270", z.pound(0, 2), 30);
        Checks.due("pound(1, 2) behind 270", z.pound(1, 2), 70);
    }

    private static void promise14SpringRunsOverAheadOfTheMill() {
        Checks.sentence(14, "what runs over, from the pound 5 down, runs at once");
        LockBank x = Scenes.withOneAt(5, 95, 50);
        int bank = x.count(3);
        x.setSpring(0, 30);
        x.setMill(5, 95);
        x.pass(1);
        Checks.duePounds(x, "when the mill draws 5 out of 100", 50, 50, 50, 50, 80, 95);
        Checks.due("count(3) more", x.count(3) - bank, 1);
    }

    private static void promise14SpringComesAheadOfTheMill() {
        Checks.sentence(14, "1. Spring [..] 2. Mill");
        LockBank x = Scenes.withSpring(7);
        x.setMill(5, 60);
        x.pass(1);
        Checks.due("pound(5, 3)", x.pound(5, 3), 7);
        Checks.duePounds(x, "behind both", 60, 60, 60, 60, 67, 60);
    }

    private static void promise14SpringComesAheadOfTheLocks() {
        Checks.sentence(14, "1. Spring [..] 3. Locks");
        LockBank x = Scenes.withOneAt(5, 31, 50);
        x.setSpring(0, 1);
        x.barge(5, 4, 9);
        Checks.due("lock(4, 4) ahead of the spring", x.lock(4, 4), -1);
        Checks.due("pass(1) when the spring brings 1", x.pass(1), 1);
        Checks.due("pound(5, 0)", x.pound(5, 0), 20);
    }

    private static void promise14MillDrawsBeyondTheMark() {
        Checks.sentence(14, "if it is at a pound that has more water than the mark, it draws what there is beyond the mark, at most 10");
        int[] marks = {100, 61, 60, 59, 56, 55, 51, 50, 49, 0};
        int[] draws = {0, 0, 0, 1, 4, 5, 9, 10, 10, 10};
        for (int i = 0; i < marks.length; i++) {
            LockBank x = Scenes.withSpring(0);
            x.setMill(3, marks[i]);
            x.pass(1);
            Checks.duePounds(x, "by the mark " + marks[i], 60, 60, 60 + draws[i], 60 - draws[i], 60, 60);
            Checks.due("pound(3, 3) by the mark " + marks[i], x.pound(3, 3), draws[i]);
            Checks.due("count(6) by the mark " + marks[i], x.count(6), 0);
        }
        LockBank full = Scenes.withWaters(BRIM);
        full.setMill(5, 100);
        full.pass(1);
        Checks.duePounds(full, "by the mark 100 at the brim", BRIM);
        LockBank empty = Scenes.withOneAt(5, 0, 50);
        empty.setMill(5, 0);
        empty.pass(1);
        Checks.duePounds(empty, "by the mark 0 out of none", 50, 50, 50, 50, 50, 0);
    }

    private static void promise14MillAtNone() {
        Checks.sentence(14, "Mill: if it is at a pound");
        LockBank x = Scenes.withSpring(0);
        x.setMill(-1, 0);
        x.pass(3);
        Checks.duePounds(x, "without a mill", 60, 60, 60, 60, 60, 60);
        Checks.due("count(3)", x.count(3), 0);
    }

    private static void promise14MillAtThePoundZero() {
        Checks.sentence(14, "this comes into the next lower pound (of the pound 0 away [..])");
        LockBank x = Scenes.withSpring(0);
        x.setMill(0, 53);
        x.pass(2);
        Checks.duePounds(x, "behind the mill at 0", 53, 60, 60, 60, 60, 60);
        Checks.due("pound(0, 3)", x.pound(0, 3), 7);
        Checks.due("pound(0, 2): it did not run over", x.pound(0, 2), 0);
        Checks.due("count(6)", x.count(6), 7);
        Checks.due("count(3)", x.count(3), 1);
        x.setMill(1, 53);
        x.pass(1);
        Checks.duePounds(x, "behind the mill at 1", 60, 53, 60, 60, 60, 60);
        Checks.due("count(6) behind the mill at 1", x.count(6), 7);
    }

    private static void promise14MillToTheBrim() {
        Checks.sentence(14, "what runs over there, runs at once");
        LockBank x = Scenes.withOneAt(2, 90, 60);
        x.setMill(3, 0);
        x.pass(1);
        Checks.duePounds(x, "at the brim", 60, 60, 100, 50, 60, 60);
        LockBank z = Scenes.withOneAt(2, 91, 60);
        z.setMill(3, 0);
        z.pass(1);
        Checks.duePounds(z, "behind one beyond the brim", 60, 61, 100, 50, 60, 60);
    }

    private static void promise14MillRunsOnDown() {
        Checks.sentence(14, "what runs over there, runs at once");
        LockBank x = Scenes.withWaters(BRIM);
        int away = x.count(6);
        int ranOver = x.pound(3, 2);
        x.setMill(3, 50);
        x.pass(1);
        Checks.duePounds(x, "behind 10 drawn", 100, 100, 100, 90, 100, 100);
        Checks.due("count(6) more", x.count(6) - away, 10);
        Checks.due("pound(3, 2) more", x.pound(3, 2) - ranOver, 0);
        Checks.due("pound(3, 3)", x.pound(3, 3), 10);
    }

    private static void promise14MillRunsOverAheadOfTheLocks() {
        Checks.sentence(14, "what runs over there, runs at once");
        LockBank x = Scenes.withWaters(new int[] {50, 50, 50, 22, 100, 60});
        x.setMill(5, 50);
        x.barge(3, 2, 9);
        Checks.due("pass(1) when 10 run over into the pound 3", x.pass(1), 1);
        Checks.duePounds(x, "behind the lock", 50, 50, 62, 20, 100, 50);
    }

    private static void promise14MillPaysAFifthCut() {
        Checks.sentence(14, "a fifth (cut) of it in coins into the bank");
        for (int drawn = 0; drawn <= 10; drawn++) {
            LockBank x = Scenes.withSpring(0);
            x.setMill(4, 60 - drawn);
            x.pass(1);
            Checks.due("count(3) behind " + drawn, x.count(3), drawn < 5 ? 0 : drawn < 10 ? 1 : 2);
        }
        // It is cut each hour anew: 4 in each of two hours bring none.
        LockBank z = Scenes.withSpring(4);
        z.setMill(5, 60);
        z.pass(2);
        Checks.due("count(3) behind 4 and 4", z.count(3), 0);
        Checks.due("pound(5, 3) behind 4 and 4", z.pound(5, 3), 8);
    }

    private static void promise14MillComesAheadOfTheLocks() {
        Checks.sentence(14, "2. Mill [..] 3. Locks");
        LockBank x = Scenes.withOneAt(5, 38, 50);
        x.setMill(5, 31);
        x.barge(5, 4, 9);
        Checks.due("lock(4, 4) ahead of the mill", x.lock(4, 4), 0);
        Checks.due("pass(1) when the mill leaves 31", x.pass(1), 0);
        Checks.due("pound(5, 0)", x.pound(5, 0), 31);
        LockBank z = Scenes.withOneAt(4, 31, 60);
        z.setMill(5, 59);
        z.barge(4, 3, 9);
        Checks.due("lock(3, 4) ahead of the mill", z.lock(3, 4), -1);
        Checks.due("pass(1) when the mill brings 1", z.pass(1), 1);
        Checks.due("pound(4, 0)", z.pound(4, 0), 20);
    }

    private static void promise14LocksGoFromTheTop() {
        Checks.sentence(14, "Locks, from 4 down to 0");
        for (int k = 3; k >= 0; k--) {
            LockBank x = Scenes.withOneAt(k + 1, 20, 60);
            x.barge(k + 1, k, 9);
            x.barge(k + 2, k + 1, 9);
            Checks.due("lock(" + k + ", 4) ahead", x.lock(k, 4), -1);
            Checks.due("pass(1) when the lock " + (k + 1) + " brings 12", x.pass(1), 2);
            Checks.due("pound(" + (k + 1) + ", 0)", x.pound(k + 1, 0), 20);
        }
    }

    private static void promise14OneBargeALock() {
        Checks.sentence(14, "each serves at most one barge that waits at it as it comes to its turn");
        LockBank x = Scenes.withSpring(30);
        x.barge(3, 2, 9);
        x.barge(3, 2, 9);
        x.barge(2, 3, 9);
        Checks.due("pass(1)", x.pass(1), 1);
        Checks.due("told(2, 3)", x.told(2, 3), 1);
        Checks.due("pass(1) again", x.pass(1), 1);
        Checks.due("told(0, 3)", x.told(0, 3), 1);
        Checks.due("told(1, 3)", x.told(1, 3), 0);
        Checks.due("pass(1) at last", x.pass(1), 1);
        Checks.due("told(1, 3) at last", x.told(1, 3), 1);
    }

    private static void promise14OnceInAnHour() {
        Checks.sentence(14, "one that has just been served by a lock in this hour does not wait any more in it");
        LockBank x = new LockBank();
        x.barge(5, 0, 9);
        for (int pound = 4; pound >= 0; pound--) {
            Checks.due("pass(1) down to " + pound, x.pass(1), 1);
            Checks.due("told(0, 0) down", x.told(0, 0), pound);
        }
        LockBank z = new LockBank();
        z.barge(0, 5, 9);
        for (int pound = 1; pound <= 5; pound++) {
            Checks.due("pass(1) up to " + pound, z.pass(1), 1);
            Checks.due("told(0, 0) up", z.told(0, 0), pound);
        }
        // One that was just served leaves its turn at the next lock to another one.
        LockBank v = new LockBank();
        v.barge(5, 3, 9);
        v.barge(4, 3, 9);
        Checks.due("pass(1) of two on the same way", v.pass(1), 2);
        Checks.dueBarge(v, 0, 4, 3, 8, 1);
        Checks.dueBarge(v, 1, 3, 3, 8, 1);
        // Also the tenth.
        LockBank ten = new LockBank();
        for (int i = 0; i < 9; i++) {
            ten.barge(0, 0, 0);
        }
        ten.barge(5, 0, 9);
        Checks.due("pass(1) of the barge 9", ten.pass(1), 1);
        Checks.due("told(9, 0)", ten.told(9, 0), 4);
    }

    private static void promise14NoneThatHasCome() {
        Checks.sentence(14, "One that has not come waits");
        LockBank x = new LockBank();
        for (int pound = 0; pound < 6; pound++) {
            x.barge(pound, pound, 9);
        }
        x.barge(2, 1, 9);
        Checks.due("pass(1)", x.pass(1), 1);
        Checks.due("pass(60)", x.pass(60), 0);
        Checks.dueBarge(x, 6, 1, 1, 8, 1, -1);
    }

    private static void promise14FeeIsNeeded() {
        Checks.sentence(14, "A barge can be served, if it has the fee");
        LockBank x = new LockBank();
        x.setFee(20);
        x.barge(5, 4, 19);
        x.barge(5, 4, 20);
        x.barge(0, 2, 21);
        Checks.due("pass(1)", x.pass(1), 2);
        Checks.dueBarge(x, 0, 5, 4, 19, 0, 4);
        Checks.dueBarge(x, 1, 4, 4, 0, 1, -1);
        Checks.dueBarge(x, 2, 1, 2, 1, 1, 1);
        Checks.due("pass(5)", x.pass(5), 0);
        Checks.due("count(3)", x.count(3), 40);
        x.setFee(0);
        x.barge(4, 5, 0);
        Checks.due("pass(1) without a fee", x.pass(1), 2);
        Checks.dueBarge(x, 3, 5, 5, 0, 1, -1);
        Checks.due("count(3) without a fee", x.count(3), 40);
    }

    private static void promise14FillingNeedsThirtyTwo() {
        Checks.sentence(14, "A filling can be had, if the pound k + 1 has 12 beyond 20 or more (so 32 or more");
        for (int water : new int[] {0, 12, 20, 31, 32, 33}) {
            boolean enough = water >= 32;
            int left = enough ? water - 12 : water;
            for (int k = 0; k < 5; k++) {
                dueServed(k, "down, empty", water, false, k + 1, k, enough, left);
                dueServed(k, "down, full", water, true, k + 1, k, true, water);
                dueServed(k, "up, empty", water, false, k, k + 1, enough, left);
                dueServed(k, "up, full", water, true, k, k + 1, enough, left);
            }
        }
    }

    private static void dueServed(int k, String way, int water, boolean full, int from, int to, boolean served, int left) {
        LockBank x = full ? Scenes.withOneAt(k + 1, water, 50, k) : Scenes.withOneAt(k + 1, water, 50);
        x.barge(from, to, 9);
        String when = " of the lock " + k + ", " + way + " with " + water;
        Checks.due("lock(" + k + ", 4)" + when, x.lock(k, 4), served ? 0 : -1);
        Checks.due("pass(1)" + when, x.pass(1), served ? 1 : 0);
        Checks.due("pound(" + (k + 1) + ", 0)" + when, x.pound(k + 1, 0), left);
        Checks.due("told(0, 0)" + when, x.told(0, 0), served ? to : from);
    }

    private static void promise14FillingIsAskedAheadOfTheEmptying() {
        Checks.sentence(14, "this is asked ahead of any emptying");
        LockBank x = Scenes.withOneAt(3, 31, 100, 2);
        x.barge(2, 3, 9);
        int away = x.count(6);
        Checks.due("pass(1) up through a full chamber at 31", x.pass(1), 0);
        Checks.due("lock(2, 0): it was not emptied", x.lock(2, 0), 1);
        Checks.due("count(6)", x.count(6), away);
        x.setDrought(true);
        Checks.due("pass(1) in a drought", x.pass(1), 0);
        Checks.due("lock(2, 0) in a drought", x.lock(2, 0), 1);
    }

    private static void promise14DroughtServesWhatFits() {
        Checks.sentence(14, "In a drought one that does not fit is not served.");
        LockBank x = Scenes.withSpring(0);
        x.setDrought(true);
        x.barge(5, 4, 9);
        x.barge(1, 2, 9);
        Checks.due("pass(1)", x.pass(1), 1);
        Checks.due("told(0, 3): down, empty", x.told(0, 3), 0);
        Checks.due("told(1, 3): up, empty", x.told(1, 3), 1);
        x.barge(1, 2, 9);
        Checks.due("pass(3)", x.pass(3), 0);
        Checks.due("told(2, 3): up, full", x.told(2, 3), 0);
        x.work(4);
        x.work(1);
        Checks.due("pass(1) behind work", x.pass(1), 2);
        Checks.due("told(0, 3): down, full", x.told(0, 3), 1);
        Checks.due("told(2, 3): up, empty again", x.told(2, 3), 1);
    }

    private static void promise14DroughtNeedsTheFillingToo() {
        Checks.sentence(14, "going up it needs one always");
        LockBank x = Scenes.withOneAt(5, 31, 50);
        x.setDrought(true);
        x.barge(4, 5, 9);
        Checks.due("pass(2) at 31", x.pass(2), 0);
        Scenes.setAllHours(x, 1);
        Checks.due("pass(1) at 32", x.pass(1), 1);
        LockBank z = Scenes.withOneAt(5, 0, 50, 4);
        z.setDrought(true);
        z.barge(5, 4, 9);
        Checks.due("pass(1) down, full, at 0", z.pass(1), 1);
    }

    private static void promise14FirstThatFits() {
        Checks.sentence(14, "Of those that can be served the first one that fits is served, by numbers");
        LockBank x = Scenes.withSpring(0);
        x.barge(3, 2, 9);
        x.barge(3, 2, 9);
        x.barge(2, 3, 9);
        x.barge(2, 3, 9);
        int[] order = {2, 0, 3, 1};
        for (int i = 0; i < order.length; i++) {
            Checks.due("lock(2, 4) ahead of the hour " + i, x.lock(2, 4), order[i]);
            Checks.due("pass(1)", x.pass(1), 1);
            Checks.due("told(" + order[i] + ", 3) behind the hour " + i, x.told(order[i], 3), 1);
        }
        Checks.duePounds(x, "behind two each", 60, 60, 84, 36, 60, 60);
    }

    private static void promise14FirstOfAllIfNoneFits() {
        Checks.sentence(14, "without such a one the first one");
        LockBank x = Scenes.withSpring(0);
        x.barge(3, 3, 9);
        for (int i = 1; i < 4; i++) {
            x.barge(3, 2, 9);
        }
        LockBank z = Scenes.withWaters(BRIM, 2);
        z.barge(2, 2, 9);
        for (int i = 1; i < 4; i++) {
            z.barge(2, 3, 9);
        }
        for (int i = 1; i < 4; i++) {
            Checks.due("pass(1) down, empty", x.pass(1), 1);
            Checks.due("told(" + i + ", 3) down, empty", x.told(i, 3), 1);
            Checks.due("pass(1) up, full", z.pass(1), 1);
            Checks.due("told(" + i + ", 3) up, full", z.told(i, 3), 1);
        }
    }

    private static void promise14FirstThatCanBeServed() {
        Checks.sentence(14, "Of those that can be served");
        // The first one that fits can't pay.
        LockBank x = Scenes.withSpring(0);
        x.barge(2, 3, 0);
        x.barge(3, 2, 9);
        x.barge(2, 3, 9);
        Checks.due("lock(2, 4) with a later one that fits", x.lock(2, 4), 2);
        LockBank z = Scenes.withSpring(0);
        z.barge(2, 3, 0);
        z.barge(3, 2, 0);
        z.barge(3, 2, 9);
        Checks.due("lock(2, 4) with none that fits and can pay", z.lock(2, 4), 2);
        // The first one has no filling, the second one needs none.
        LockBank v = Scenes.withOneAt(3, 31, 50, 2);
        v.barge(2, 3, 9);
        v.barge(3, 2, 9);
        Checks.due("lock(2, 4) without a filling", v.lock(2, 4), 1);
        Checks.due("pass(1) without a filling", v.pass(1), 1);
        Checks.due("told(1, 3)", v.told(1, 3), 1);
        Checks.due("pass(1) then", v.pass(1), 0);
    }

    private static void promise14GoingDown() {
        Checks.sentence(14, "Serving one that goes down: the chamber is filled, if it is empty; then the barge goes in, and it is emptied; it is empty then.");
        LockBank x = Scenes.withSpring(0);
        x.setFee(3);
        x.barge(4, 2, 9);
        x.pass(1);
        Checks.duePounds(x, "behind one down, empty", 60, 60, 60, 72, 48, 60);
        Checks.due("lock(3, 0)", x.lock(3, 0), 0);
        Checks.due("lock(3, 2)", x.lock(3, 2), 1);
        Checks.due("lock(3, 3)", x.lock(3, 3), 12);
        Checks.dueBarge(x, 0, 3, 2, 6, 1, 2);
        Checks.due("count(3)", x.count(3), 3);
        x.work(2);
        x.pass(1);
        Checks.duePounds(x, "behind one down, full", 60, 60, 72, 60, 48, 60);
        Checks.due("lock(2, 0)", x.lock(2, 0), 0);
        Checks.due("lock(2, 3)", x.lock(2, 3), 12);
        Checks.dueBarge(x, 0, 2, 2, 3, 2, -1);
        Checks.due("count(3) then", x.count(3), 6);
    }

    private static void promise14GoingUp() {
        Checks.sentence(14, "One that goes up: the chamber is emptied, if it is full; then the barge goes in, and it is filled; it is full then.");
        LockBank x = Scenes.withSpring(0);
        x.setFee(2);
        x.barge(1, 3, 9);
        x.pass(1);
        Checks.duePounds(x, "behind one up, empty", 60, 60, 48, 60, 60, 60);
        Checks.due("lock(1, 0)", x.lock(1, 0), 1);
        Checks.due("lock(1, 2)", x.lock(1, 2), 1);
        Checks.due("lock(1, 3)", x.lock(1, 3), 12);
        Checks.dueBarge(x, 0, 2, 3, 7, 1, 2);
        x.work(2);
        x.pass(1);
        Checks.duePounds(x, "behind one up, full", 60, 60, 60, 36, 60, 60);
        Checks.due("lock(2, 0)", x.lock(2, 0), 1);
        Checks.due("lock(2, 2)", x.lock(2, 2), 1);
        Checks.due("lock(2, 3)", x.lock(2, 3), 24);
        Checks.dueBarge(x, 0, 3, 3, 5, 2, -1);
    }

    private static void promise14EmptyingToTheBrim() {
        Checks.sentence(14, "Water beyond 100 runs over");
        LockBank x = Scenes.withOneAt(2, 88, 60);
        x.barge(3, 2, 9);
        x.pass(1);
        Checks.duePounds(x, "at the brim", 60, 60, 100, 48, 60, 60);
        LockBank z = Scenes.withOneAt(2, 89, 60);
        z.barge(3, 2, 9);
        z.pass(1);
        Checks.duePounds(z, "behind one beyond the brim", 60, 61, 100, 48, 60, 60);
    }

    private static void promise14EmptyingRunsOverAtOnce() {
        Checks.sentence(14, "What runs over runs at once, behind each emptying.");
        // Down by the lock 4: what runs over is there for the lock 2.
        LockBank x = Scenes.withWaters(new int[] {50, 50, 50, 20, 100, 60});
        x.barge(5, 4, 9);
        x.barge(3, 2, 9);
        Checks.due("pass(1) of two down", x.pass(1), 2);
        Checks.duePounds(x, "behind two down", 50, 50, 62, 20, 100, 48);
        // Up through the full chamber of the lock 3: what runs over is there for the lock 1.
        LockBank z = Scenes.withWaters(new int[] {50, 50, 20, 100, 60, 60}, 3);
        z.barge(3, 4, 9);
        z.barge(2, 1, 9);
        Checks.due("pass(1) of one up and one down", z.pass(1), 2);
        Checks.duePounds(z, "behind one up and one down", 50, 62, 20, 100, 48, 60);
        // The filling of the lock 3 comes too late to make room for the emptying of the lock 4.
        LockBank v = Scenes.withWaters(new int[] {50, 50, 50, 50, 100, 60});
        v.barge(5, 4, 9);
        v.barge(4, 3, 9);
        v.pass(1);
        Checks.duePounds(v, "behind both locks", 50, 50, 50, 74, 88, 48);
    }

    private static void promise14EmptyingRunsAwayFromThePoundZero() {
        Checks.sentence(14, "from the pound 0 away");
        LockBank x = Scenes.withOneAt(0, 88, 60);
        int away = x.count(6);
        int ranOver = x.pound(0, 2);
        x.barge(1, 0, 9);
        x.barge(1, 0, 9);
        x.pass(1);
        Checks.due("count(6) at the brim", x.count(6), away);
        x.pass(1);
        Checks.duePounds(x, "behind two down", 100, 36, 60, 60, 60, 60);
        Checks.due("count(6) behind two down", x.count(6), away + 12);
        Checks.due("pound(0, 2) behind two down", x.pound(0, 2), ranOver + 12);
        // Up through a full chamber: its water runs away, too.
        LockBank z = Scenes.withWaters(BRIM, 0);
        away = z.count(6);
        z.barge(0, 1, 9);
        z.pass(1);
        Checks.duePounds(z, "behind one up", 100, 88, 100, 100, 100, 100);
        Checks.due("count(6) behind one up", z.count(6), away + 12);
    }
}
