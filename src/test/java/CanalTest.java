/** Promises 1 to 5: a new object, and what is set of the canal. */
public final class CanalTest {
    public static void main(String[] args) {
        promise1WithoutMillAndBarges();
        promise1WaterAtFirst();
        promise1SpringAtFirst();
        promise1ChambersAtFirst();
        promise1MarkAtFirst();
        promise1DroughtAtFirst();
        promise1FeeAndBankAtFirst();
        promise1ObjectsAreApart();
        promise2ReturnsThatBefore();
        promise2FromNowOn();
        promise2TableGoesRound();
        promise2NoSuchHour();
        promise2WaterBesideItsRange();
        promise2HourIsAskedFirst();
        promise3ReturnsTheMarkBefore();
        promise3NoneIsAPlace();
        promise3MarkAlsoWithNone();
        promise3NoSuchPound();
        promise3MarkBesideItsRange();
        promise3PoundIsAskedFirst();
        promise4ReturnsWhetherThereWasOne();
        promise4FromNowOn();
        promise5ReturnsTheOneBefore();
        promise5FromNowOn();
        promise5FeeBesideItsRange();
        Checks.end();
    }

    private static void promise1WithoutMillAndBarges() {
        Checks.sentence(1, "Creates a canal without a mill and barges, in the hour 0.");
        LockBank x = new LockBank();
        Checks.due("count(0)", x.count(0), 0);
        Checks.due("count(1)", x.count(1), 0);
        Checks.due("count(2)", x.count(2), 0);
        Checks.due("count(9)", x.count(9), -1);
        for (int k = 0; k < 5; k++) {
            Checks.due("lock(" + k + ", 1)", x.lock(k, 1), 0);
            Checks.due("lock(" + k + ", 2)", x.lock(k, 2), 0);
            Checks.due("lock(" + k + ", 4)", x.lock(k, 4), -1);
        }
        for (int p = 0; p < 6; p++) {
            Checks.due("pound(" + p + ", 1)", x.pound(p, 1), 0);
            Checks.due("pound(" + p + ", 3)", x.pound(p, 3), 0);
        }
        Checks.dueNoSuch(x, "told(0, 0)", y -> y.told(0, 0));
    }

    private static void promise1WaterAtFirst() {
        Checks.sentence(1, "each has water, 0 to 100 (60, at first)");
        LockBank x = new LockBank();
        for (int p = 0; p < 6; p++) {
            Checks.due("pound(" + p + ", 0)", x.pound(p, 0), 60);
            Checks.due("pound(" + p + ", 2)", x.pound(p, 2), 0);
        }
        Checks.due("count(4)", x.count(4), 360);
        Checks.due("count(6)", x.count(6), 0);
    }

    private static void promise1SpringAtFirst() {
        Checks.sentence(1, "how much water comes into the pound 5, 0 to 30 (8, at first)");
        LockBank x = new LockBank();
        for (int hour = 0; hour < 8; hour++) {
            Checks.due("setSpring(" + hour + ", 8)", x.setSpring(hour, 8), 8);
        }
        x.pass(5);
        Checks.duePounds(x, "behind 5 hours", 60, 60, 60, 60, 60, 100);
        x.pass(3);
        Checks.duePounds(x, "behind 8 hours", 60, 60, 60, 60, 84, 100);
    }

    private static void promise1ChambersAtFirst() {
        Checks.sentence(1, "Its chamber is empty (at first) or full.");
        LockBank x = new LockBank();
        for (int k = 0; k < 5; k++) {
            Checks.due("lock(" + k + ", 0)", x.lock(k, 0), 0);
            Checks.due("lock(" + k + ", 3)", x.lock(k, 3), 0);
        }
        Checks.due("count(5)", x.count(5), 0);
    }

    private static void promise1MarkAtFirst() {
        Checks.sentence(1, "It is at a pound, or at none (at first), and has a mark, 0 to 100 (50, at first).");
        LockBank x = new LockBank();
        Checks.due("count(8)", x.count(8), 50);
        Checks.due("setMill(-1, 50)", x.setMill(-1, 50), 50);
    }

    private static void promise1DroughtAtFirst() {
        Checks.sentence(1, "There is one, or none (at first).");
        Checks.due("setDrought(false)", new LockBank().setDrought(false), false);
    }

    private static void promise1FeeAndBankAtFirst() {
        Checks.sentence(1, "It is 1 coin for a locking, at first. The bank has no coins, at first.");
        LockBank x = new LockBank();
        Checks.due("count(7)", x.count(7), 1);
        Checks.due("count(3)", x.count(3), 0);
        Checks.due("setFee(1)", x.setFee(1), 1);
    }

    private static void promise1ObjectsAreApart() {
        Checks.sentence(1, "Creates a canal");
        LockBank x = new LockBank();
        LockBank y = new LockBank();
        long before = y.digest();
        x.setSpring(0, 1);
        x.setMill(3, 20);
        x.setDrought(true);
        x.setFee(2);
        x.barge(0, 5, 30);
        x.work(1);
        x.pass(5);
        Checks.due("digest() of another object", y.digest(), before);
        Checks.due("digest() of a new object", new LockBank().digest(), before);
    }

    private static void promise2ReturnsThatBefore() {
        Checks.sentence(2, "Returns that before.");
        LockBank x = new LockBank();
        Checks.due("setSpring(0, 30)", x.setSpring(0, 30), 8);
        Checks.due("setSpring(7, 0)", x.setSpring(7, 0), 8);
        Checks.due("setSpring(0, 0)", x.setSpring(0, 0), 30);
        Checks.due("setSpring(7, 30)", x.setSpring(7, 30), 0);
        Checks.due("setSpring(7, 4)", x.setSpring(7, 4), 30);
        Checks.due("setSpring(0, 1)", x.setSpring(0, 1), 0);
        for (int hour = 1; hour < 7; hour++) {
            Checks.due("setSpring(" + hour + ", 29)", x.setSpring(hour, 29), 8);
        }
    }

    private static void promise2FromNowOn() {
        Checks.sentence(2, "the water of the spring in it from now on");
        LockBank x = new LockBank();
        x.pass(1);
        x.setSpring(0, 30);
        Checks.due("pound(5, 0) when the hour 0 is over", x.pound(5, 0), 68);
        x.setSpring(1, 0);
        x.pass(1);
        Checks.due("pound(5, 0) behind the hour 1", x.pound(5, 0), 68);
        x.pass(3);
        Checks.due("pound(5, 0) behind the hour 4", x.pound(5, 0), 92);
    }

    private static void promise2TableGoesRound() {
        Checks.sentence(2, "for each of 8 hours (the hour by the remainder of 8)");
        LockBank x = new LockBank();
        int[] table = {1, 2, 3, 4, 0, 6, 7, 5};
        for (int hour = 0; hour < 8; hour++) {
            x.setSpring(hour, table[hour]);
        }
        int water = 60;
        for (int hour = 0; hour < 11; hour++) {
            x.pass(1);
            water += table[hour % 8];
            Checks.due("pound(5, 0) behind the hour " + hour, x.pound(5, 0), water);
        }
        x.setSpring(3, 0);
        x.pass(1);
        Checks.due("pound(5, 0) behind a changed hour", x.pound(5, 0), water);
        // Far on: the remainder of 28200 is 0.
        LockBank z = Scenes.withSpring(0);
        for (int i = 0; i < 470; i++) {
            z.pass(60);
        }
        z.setSpring(4, 9);
        z.pass(4);
        Checks.due("pound(5, 0) ahead of the hour 28204", z.pound(5, 0), 60);
        z.pass(1);
        Checks.due("pound(5, 0) behind the hour 28204", z.pound(5, 0), 69);
    }

    private static void promise2NoSuchHour() {
        Checks.sentence(2, "Throws IndexOutOfBoundsException if hour is not 0 to 7");
        LockBank x = new LockBank();
        for (int hour : Checks.outside(0, 7)) {
            Checks.dueNoSuch(x, "setSpring(" + hour + ", 5)", y -> y.setSpring(hour, 5));
        }
        Checks.due("setSpring(0, 5)", x.setSpring(0, 5), 8);
        Checks.due("setSpring(7, 5)", x.setSpring(7, 5), 8);
    }

    private static void promise2WaterBesideItsRange() {
        Checks.sentence(2, "Throws IllegalArgumentException if by is not 0 to 30");
        LockBank x = new LockBank();
        for (int by : Checks.outside(0, 30)) {
            Checks.dueBadNumber(x, "setSpring(0, " + by + ")", y -> y.setSpring(0, by));
            Checks.dueBadNumber(x, "setSpring(7, " + by + ")", y -> y.setSpring(7, by));
        }
        Checks.due("setSpring(0, 0)", x.setSpring(0, 0), 8);
        Checks.due("setSpring(7, 30)", x.setSpring(7, 30), 8);
    }

    private static void promise2HourIsAskedFirst() {
        Checks.sentence(2, "If several exceptions apply, the one that is named first is thrown.");
        LockBank x = new LockBank();
        for (int hour : Checks.outside(0, 7)) {
            for (int by : Checks.outside(0, 30)) {
                Checks.dueNoSuch(x, "setSpring(" + hour + ", " + by + ")", y -> y.setSpring(hour, by));
            }
        }
    }

    private static void promise3ReturnsTheMarkBefore() {
        Checks.sentence(3, "Returns the mark before.");
        LockBank x = new LockBank();
        Checks.due("setMill(0, 0)", x.setMill(0, 0), 50);
        Checks.due("setMill(5, 100)", x.setMill(5, 100), 0);
        Checks.due("setMill(-1, 70)", x.setMill(-1, 70), 100);
        Checks.due("setMill(2, 70)", x.setMill(2, 70), 70);
    }

    private static void promise3NoneIsAPlace() {
        Checks.sentence(3, "the pound at which the mill is from now on, or -1 for none");
        LockBank x = Scenes.withSpring(0);
        for (int pound = 0; pound < 6; pound++) {
            x.setMill(pound, 58);
            Checks.due("count(9) at " + pound, x.count(9), pound);
        }
        x.setMill(-1, 0);
        Checks.due("count(9) at none", x.count(9), -1);
        x.pass(3);
        Checks.due("count(3) at none", x.count(3), 0);
        Checks.duePounds(x, "at none", 60, 60, 60, 60, 60, 60);
        x.setMill(5, 58);
        x.pass(1);
        Checks.duePounds(x, "at 5", 60, 60, 60, 60, 62, 58);
    }

    private static void promise3MarkAlsoWithNone() {
        Checks.sentence(3, "its mark from now on (also with -1)");
        LockBank x = new LockBank();
        x.setMill(-1, 100);
        Checks.due("count(8) at none, 100", x.count(8), 100);
        x.setMill(-1, 0);
        Checks.due("count(8) at none, 0", x.count(8), 0);
        x.setMill(3, 37);
        Checks.due("count(8) at 3", x.count(8), 37);
    }

    private static void promise3NoSuchPound() {
        Checks.sentence(3, "Throws IndexOutOfBoundsException if pound is not -1 to 5");
        LockBank x = new LockBank();
        for (int pound : Checks.outside(-1, 5)) {
            Checks.dueNoSuch(x, "setMill(" + pound + ", 40)", y -> y.setMill(pound, 40));
        }
        Checks.due("count(9) behind refused calls", x.count(9), -1);
        Checks.due("setMill(-1, 40)", x.setMill(-1, 40), 50);
        Checks.due("setMill(5, 30)", x.setMill(5, 30), 40);
    }

    private static void promise3MarkBesideItsRange() {
        Checks.sentence(3, "Throws IllegalArgumentException if mark is not 0 to 100");
        LockBank x = new LockBank();
        for (int mark : Checks.outside(0, 100)) {
            Checks.dueBadNumber(x, "setMill(2, " + mark + ")", y -> y.setMill(2, mark));
            Checks.dueBadNumber(x, "setMill(-1, " + mark + ")", y -> y.setMill(-1, mark));
        }
        Checks.due("count(9) behind refused calls", x.count(9), -1);
        Checks.due("setMill(2, 0)", x.setMill(2, 0), 50);
        Checks.due("setMill(2, 100)", x.setMill(2, 100), 0);
    }

    private static void promise3PoundIsAskedFirst() {
        Checks.sentence(3, "If several exceptions apply, the one that is named first is thrown.");
        LockBank x = new LockBank();
        for (int pound : Checks.outside(-1, 5)) {
            for (int mark : Checks.outside(0, 100)) {
                Checks.dueNoSuch(x, "setMill(" + pound + ", " + mark + ")", y -> y.setMill(pound, mark));
            }
        }
    }

    private static void promise4ReturnsWhetherThereWasOne() {
        Checks.sentence(4, "Returns whether there was one.");
        LockBank x = new LockBank();
        Checks.due("setDrought(false)", x.setDrought(false), false);
        Checks.due("setDrought(true)", x.setDrought(true), false);
        Checks.due("setDrought(true) again", x.setDrought(true), true);
        Checks.due("setDrought(false) then", x.setDrought(false), true);
        Checks.due("setDrought(false) at last", x.setDrought(false), false);
    }

    private static void promise4FromNowOn() {
        Checks.sentence(4, "whether there is a drought from now on");
        LockBank x = new LockBank();
        x.barge(5, 3, 9);
        x.setDrought(true);
        Checks.due("lock(4, 4) in a drought", x.lock(4, 4), -1);
        Checks.due("pass(1) in a drought", x.pass(1), 0);
        x.setDrought(false);
        Checks.due("lock(4, 4) without", x.lock(4, 4), 0);
        Checks.due("pass(1) without", x.pass(1), 1);
        x.setDrought(true);
        Checks.due("pass(1) in a drought again", x.pass(1), 0);
    }

    private static void promise5ReturnsTheOneBefore() {
        Checks.sentence(5, "Returns the one before.");
        LockBank x = new LockBank();
        Checks.due("setFee(0)", x.setFee(0), 1);
        Checks.due("setFee(20)", x.setFee(20), 0);
        Checks.due("setFee(20) again", x.setFee(20), 20);
        Checks.due("setFee(7)", x.setFee(7), 20);
    }

    private static void promise5FromNowOn() {
        Checks.sentence(5, "the fee from now on");
        LockBank x = new LockBank();
        x.barge(5, 0, 45);
        x.setFee(20);
        Checks.due("count(7)", x.count(7), 20);
        x.pass(1);
        Checks.due("told(0, 2) behind a fee of 20", x.told(0, 2), 25);
        Checks.due("count(3) behind a fee of 20", x.count(3), 20);
        x.setFee(0);
        x.pass(1);
        Checks.due("told(0, 2) behind a fee of 0", x.told(0, 2), 25);
        Checks.due("count(3) behind a fee of 0", x.count(3), 20);
    }

    private static void promise5FeeBesideItsRange() {
        Checks.sentence(5, "Throws IllegalArgumentException if fee is not 0 to 20");
        LockBank x = new LockBank();
        for (int fee : Checks.outside(0, 20)) {
            Checks.dueBadNumber(x, "setFee(" + fee + ")", y -> y.setFee(fee));
        }
        Checks.due("setFee(0) behind refused calls", x.setFee(0), 1);
        Checks.due("setFee(20)", x.setFee(20), 0);
    }
}
