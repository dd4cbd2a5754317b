/** Promises 15 to 18: what would be. */
public final class LookAheadTest {
    public static void main(String[] args) {
        promise15Arrives();
        promise15Edges();
        promise15Throws();
        promise16Foresee();
        promise16Throws();
        promise17Advise();
        promise17Ties();
        promise17Throws();
        promise18Stops();
        promise18Edges();
        lookingAheadChangesNothing();
        Checks.end();
    }

    private static void promise15Arrives() {
        LockBank x = new LockBank();
        x.barge(3, 3, 0);
        x.barge(5, 0, 9);
        x.barge(1, 2, 0);
        x.barge(2, 4, 2);
        Checks.due("arrives(0)", x.arrives(0), 0);
        // In the third hour the lock 3 serves the barge 3 first: it fits.
        Checks.due("arrives(1)", x.arrives(1), 6);
        Checks.due("arrives(2)", x.arrives(2), -1);
        Checks.due("arrives(3)", x.arrives(3), 2);
        x.pass(3);
        Checks.due("arrives(1) later", x.arrives(1), 3);
        Checks.due("arrives(3) later", x.arrives(3), 0);
        x.send(3, 5);
        Checks.due("arrives(3), sent on without coins", x.arrives(3), -1);
        x.setFee(0);
        Checks.due("arrives(3), free", x.arrives(3), 1);
        x.setDrought(true);
        Checks.due("arrives(1) in a drought", x.arrives(1), -1);
        // Two hours of a locking each in turn at one lock.
        LockBank z = Scenes.withSpring(0);
        z.barge(5, 4, 9);
        z.barge(5, 4, 9);
        z.barge(5, 4, 9);
        z.barge(5, 4, 9);
        int[] hours = {1, 2, 3, -1};
        for (int b = 0; b < hours.length; b++) {
            Checks.due("arrives(" + b + ") in turn", z.arrives(b), hours[b]);
        }
    }

    /** One water in 8 hours, the first in so many hours from now: the barge waits till there are 32. */
    private static void promise15Edges() {
        int[] waters = {17, 17, 16};
        int[] firstIn = {6, 7, 0};
        int[] due = {119, 120, -1};
        int[] really = {119, 120, 121};
        for (int i = 0; i < due.length; i++) {
            LockBank x = Scenes.withPoundDrawnTo(5, waters[i], false);
            x.setSpring((x.count(0) + firstIn[i]) % 8, 1);
            x.barge(5, 4, 9);
            Checks.due("arrives(0) in " + really[i], x.arrives(0), due[i]);
            int hours = 0;
            while (hours < 200 && x.count(2) == 0) {
                x.pass(1);
                hours++;
            }
            Checks.due("the hours till it has come", hours, really[i]);
        }
    }

    private static void promise15Throws() {
        LockBank x = new LockBank();
        Checks.dueNoSuch(x, "arrives(0) without barges", y -> y.arrives(0));
        x.barge(0, 3, 3);
        for (int barge : new int[] {-1, 1, 10, Integer.MIN_VALUE, Integer.MAX_VALUE}) {
            Checks.dueNoSuch(x, "arrives(" + barge + ")", y -> y.arrives(barge));
        }
    }

    private static LockBank busy() {
        LockBank x = new LockBank();
        x.setSpring(3, 30);
        x.setSpring(6, 0);
        x.setMill(2, 40);
        x.setFee(2);
        x.barge(5, 0, 30);
        x.barge(0, 5, 8);
        x.barge(3, 1, 20);
        x.barge(2, 4, 20);
        x.pass(2);
        return x;
    }

    private static void promise16Foresee() {
        for (int hours = 1; hours <= 60; hours++) {
            LockBank x = busy();
            LockBank later = busy();
            later.pass(hours);
            for (int what = 2; what <= 6; what++) {
                Checks.due("foresee(" + hours + ", " + what + ")", x.foresee(hours, what), later.count(what));
            }
        }
        LockBank z = Scenes.withSpring(0);
        z.setMill(0, 0);
        z.barge(5, 0, 9);
        Checks.due("foresee(5, 2)", z.foresee(5, 2), 1);
        Checks.due("foresee(4, 2)", z.foresee(4, 2), 0);
        Checks.due("foresee(2, 3)", z.foresee(2, 3), 6);
        Checks.due("foresee(6, 4)", z.foresee(6, 4), 300);
        Checks.due("foresee(3, 6)", z.foresee(3, 6), 30);
    }

    private static void promise16Throws() {
        LockBank x = busy();
        for (int hours : new int[] {0, 61, -1, Integer.MIN_VALUE, Integer.MAX_VALUE}) {
            Checks.dueBadNumber(x, "foresee(" + hours + ", 3)", y -> y.foresee(hours, 3));
            Checks.dueBadNumber(x, "foresee(" + hours + ", 7)", y -> y.foresee(hours, 7));
        }
        for (int what : new int[] {1, 7, 0, -1, 10, Integer.MIN_VALUE, Integer.MAX_VALUE}) {
            Checks.dueNoSuch(x, "foresee(1, " + what + ")", y -> y.foresee(1, what));
        }
    }

    private static void promise17Advise() {
        LockBank x = Scenes.withSpring(0);
        x.setMill(5, 100);
        // 2 coins for each 10 drawn, and no more than 10 in an hour out of 60.
        int[] due = {50, 40, 30, 20, 10, 0, 0};
        for (int hours = 1; hours <= due.length; hours++) {
            Checks.due("advise(" + hours + ")", x.advise(hours), due[hours - 1]);
        }
        Checks.due("advise(40)", x.advise(40), 0);
        Checks.due("count(8)", x.count(8), 100);

        // Out of 48, 38 is the greatest mark for 2 coins: 30 of those that are looked at.
        LockBank y = Scenes.withPoundDrawnTo(5, 48, false);
        y.setMill(5, 3);
        Checks.due("advise(1) out of 48", y.advise(1), 30);
        Checks.due("advise(2) out of 48", y.advise(2), 20);

        // Three fillings take the pound 5 from 60 to 24, at a fee of 20 each: the mill that draws one
        // of them away loses more than it earns. Marks up to 40 leave fewer than 32 for the third.
        LockBank z = Scenes.withSpring(0);
        z.setMill(5, 0);
        z.setFee(20);
        for (int i = 0; i < 3; i++) {
            z.barge(5, 4, 20);
        }
        Checks.due("advise(3) for three barges", z.advise(3), bestByTrying(3));
        Checks.due("advise(1) for three barges", z.advise(1), bestByTrying(1));
        Checks.due("advise(9) for three barges", z.advise(9), bestByTrying(9));
    }

    private static int bestByTrying(int hours) {
        int best = -1;
        int most = -1;
        for (int mark = 100; mark >= 0; mark -= 10) {
            LockBank z = Scenes.withSpring(0);
            z.setMill(5, mark);
            z.setFee(20);
            for (int i = 0; i < 3; i++) {
                z.barge(5, 4, 20);
            }
            z.pass(hours);
            if (z.count(3) > most) {
                most = z.count(3);
                best = mark;
            }
        }
        return best;
    }

    private static void promise17Ties() {
        LockBank x = new LockBank();
        for (int hours = 1; hours <= 40; hours++) {
            Checks.due("advise(" + hours + ") without a mill", x.advise(hours), 100);
        }
        x.setMill(-1, 35);
        Checks.due("advise(7) without a mill", x.advise(7), 100);
        Checks.due("count(8)", x.count(8), 35);
    }

    private static void promise17Throws() {
        LockBank x = busy();
        for (int hours : new int[] {0, 41, -1, 60, Integer.MIN_VALUE, Integer.MAX_VALUE}) {
            Checks.dueBadNumber(x, "advise(" + hours + ")", y -> y.advise(hours));
        }
    }

    private static void promise18Stops() {
        LockBank x = new LockBank();
        Checks.due("stops() without barges", x.stops(), 0);
        x.barge(2, 2, 9);
        Checks.due("stops(), all have come", x.stops(), 0);
        x.barge(5, 0, 9);
        Checks.due("stops() with a way of 5", x.stops(), 5);
        x.barge(0, 5, 1);
        Checks.due("stops() with a poor one, too", x.stops(), 5);
        x.pass(2);
        Checks.due("stops() later", x.stops(), 3);
        x.setFee(20);
        Checks.due("stops(), too dear", x.stops(), 0);
    }

    /**
     * Ten barges are served at most 50 times, so no run has a locking in each of 60 hours; the longest
     * row of busy hours here is what hour by hour comes out.
     */
    private static void promise18Edges() {
        LockBank x = Scenes.withSpring(30);
        for (int i = 0; i < 10; i++) {
            x.barge(5, 0, 99);
        }
        Checks.due("stops() of ten, one behind the other", x.stops(), 14);
        Checks.due("pass(14)", x.pass(14), 50);
        Checks.due("stops() then", x.stops(), 0);

        LockBank z = bothWays();
        LockBank v = bothWays();
        int busy = 0;
        while (busy < 60 && v.pass(1) > 0) {
            busy++;
        }
        Checks.due("stops() with both ways", z.stops(), busy);
    }

    private static LockBank bothWays() {
        LockBank x = Scenes.withSpring(12);
        for (int i = 0; i < 5; i++) {
            x.barge(5, 0, 99);
            x.barge(0, 5, 99);
        }
        return x;
    }

    private static void lookingAheadChangesNothing() {
        LockBank x = busy();
        Checks.dueUnchanged(x, "arrives(0)", y -> y.arrives(0));
        Checks.dueUnchanged(x, "arrives(1)", y -> y.arrives(1));
        Checks.dueUnchanged(x, "foresee(60, 3)", y -> y.foresee(60, 3));
        Checks.dueUnchanged(x, "advise(40)", y -> y.advise(40));
        Checks.dueUnchanged(x, "stops()", y -> y.stops());
        LockBank z = busy();
        z.pass(7);
        x.pass(7);
        Checks.due("digest() of one that looked ahead", x.digest(), z.digest());
    }
}
