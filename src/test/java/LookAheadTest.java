/** Promises 15 to 18: what would be. */
public final class LookAheadTest {
    public static void main(String[] args) {
        promise15NoHourIfItHasCome();
        promise15BehindHowManyHours();
        promise15AtMostAHundredAndTwenty();
        promise15NotByThen();
        promise15ChangesNothing();
        promise15NoSuchBarge();
        promise16AsCountHasItThen();
        promise16HoursBesideTheirRange();
        promise16NoSuchThing();
        promise16HoursAreAskedFirst();
        promise16ChangesNothing();
        promise17TheMostCoins();
        promise17TensAlone();
        promise17FeesCountToo();
        promise17OfSeveralTheGreatestOne();
        promise17HoursBesideTheirRange();
        promise17ChangesNothing();
        promise18NoneWithoutBarges();
        promise18NoneIfAllHaveCome();
        promise18NoneIfTheComingHourIsIdle();
        promise18AheadOfTheFirstIdleHour();
        promise18LongRows();
        promise18ChangesNothing();
        Checks.end();
    }

    private static LockBank busy() {
        LockBank x = new LockBank();
        x.setSpring(3, 30);
        x.setSpring(6, 0);
        x.setMill(2, 40);
        x.setFee(2);
        x.barge(5, 0, 30);
        x.barge(0, 5, 8);
        x.barge(3, 1, 20);
        x.barge(2, 4, 20);
        x.pass(2);
        return x;
    }

    private static void promise15NoHourIfItHasCome() {
        Checks.sentence(15, "0 if now");
        LockBank x = new LockBank();
        x.barge(3, 3, 0);
        x.barge(5, 4, 9);
        Checks.due("arrives(0)", x.arrives(0), 0);
        Checks.due("arrives(1) ahead", x.arrives(1), 1);
        x.pass(1);
        Checks.due("arrives(1)", x.arrives(1), 0);
        x.send(1, 3);
        Checks.due("arrives(1), sent on", x.arrives(1), 1);
        x.send(1, 4);
        Checks.due("arrives(1), sent to its pound", x.arrives(1), 0);
    }

    private static void promise15BehindHowManyHours() {
        Checks.sentence(15, "Returns behind how many hours it has come, if nothing is done");
        LockBank x = new LockBank();
        x.barge(5, 0, 9);
        x.barge(2, 4, 2);
        // In the third hour the lock 3 is full and fits barge 0; the barge 1 went up by it in the second.
        Checks.due("arrives(1)", x.arrives(1), 2);
        int hours = x.arrives(0);
        for (int i = 0; i < hours; i++) {
            Checks.due("told(0, 4) ahead of the hour " + i, x.told(0, 4) >= 0, true);
            Checks.due("arrives(0) ahead of the hour " + i, x.arrives(0), hours - i);
            x.pass(1);
        }
        Checks.due("told(0, 4) then", x.told(0, 4), -1);
        LockBank z = Scenes.withSpring(0);
        for (int i = 0; i < 3; i++) {
            z.barge(5, 4, 9);
            Checks.due("arrives(" + i + ") in turn", z.arrives(i), i + 1);
        }
        for (int way = 1; way <= 5; way++) {
            LockBank v = new LockBank();
            v.barge(5, 5 - way, 9);
            Checks.due("arrives(0) down by " + way, v.arrives(0), way);
            LockBank w = new LockBank();
            w.barge(0, way, 9);
            Checks.due("arrives(0) up by " + way, w.arrives(0), way);
        }
    }

    /** One water in 8 hours: the barge waits till there are 32, and the coming hour is 0 in the table. */
    private static LockBank waitsFor(int water, int hourOfTheSpring) {
        LockBank x = Scenes.withOneAt(5, water, 50);
        x.setSpring(hourOfTheSpring, 1);
        x.barge(5, 4, 9);
        return x;
    }

    private static void promise15AtMostAHundredAndTwenty() {
        Checks.sentence(15, "0 if now, at most 120; -1 if not by then");
        int[] waters = {17, 17, 17, 16};
        int[] springs = {5, 6, 7, 0};
        int[] really = {118, 119, 120, 121};
        int[] due = {118, 119, 120, -1};
        for (int i = 0; i < due.length; i++) {
            LockBank x = waitsFor(waters[i], springs[i]);
            Checks.due("arrives(0) in " + really[i], x.arrives(0), due[i]);
            int hours = 0;
            while (hours < 200 && x.count(2) == 0) {
                x.pass(1);
                hours++;
            }
            Checks.due("the hours till it has come", hours, really[i]);
        }
        LockBank later = waitsFor(16, 0);
        later.pass(1);
        Checks.due("arrives(0) an hour later", later.arrives(0), 120);
    }

    private static void promise15NotByThen() {
        Checks.sentence(15, "-1 if not by then");
        LockBank x = new LockBank();
        x.barge(1, 2, 0);
        Checks.due("arrives(0) without coins", x.arrives(0), -1);
        x.setFee(0);
        Checks.due("arrives(0) without a fee", x.arrives(0), 1);
        x.barge(5, 0, 4);
        x.setFee(1);
        Checks.due("arrives(1) with 4 coins for 5 locks", x.arrives(1), -1);
        x.barge(5, 0, 5);
        Checks.due("arrives(2) with 5 coins for 5 locks", x.arrives(2) > 0, true);
        x.setDrought(true);
        Checks.due("arrives(2) in a drought", x.arrives(2), -1);
        LockBank dry = Scenes.withOneAt(5, 31, 50);
        dry.barge(5, 4, 9);
        Checks.due("arrives(0) without water", dry.arrives(0), -1);
    }

    private static void promise15ChangesNothing() {
        Checks.sentence(15, "(nothing is changed)");
        LockBank x = busy();
        for (int b = 0; b < 4; b++) {
            int barge = b;
            Checks.dueUnchanged(x, "arrives(" + b + ")", y -> y.arrives(barge));
        }
        dueAsOneThatDidNotLook(x);
    }

    private static void dueAsOneThatDidNotLook(LockBank x) {
        LockBank z = busy();
        z.pass(9);
        x.pass(9);
        Checks.due("digest() of one that looked ahead", x.digest(), z.digest());
    }

    private static void promise15NoSuchBarge() {
        Checks.sentence(15, "Throws IndexOutOfBoundsException if there is no such barge");
        LockBank x = new LockBank();
        for (int n = 0; n <= 10; n++) {
            for (int barge : Checks.outside(0, n - 1)) {
                Checks.dueNoSuch(x, "arrives(" + barge + ") of " + n, y -> y.arrives(barge));
            }
            if (n < 10) {
                x.barge(0, 0, 3);
                Checks.due("arrives(" + n + ")", x.arrives(n), 0);
            }
        }
    }

    private static void promise16AsCountHasItThen() {
        Checks.sentence(16, "Returns this, behind so many hours, if nothing is done");
        for (int hours = 1; hours <= 60; hours++) {
            LockBank x = busy();
            LockBank later = busy();
            later.pass(hours);
            for (int what = 2; what <= 6; what++) {
                Checks.due("foresee(" + hours + ", " + what + ")", x.foresee(hours, what), later.count(what));
            }
        }
        LockBank z = Scenes.withSpring(0);
        z.setMill(0, 0);
        z.barge(5, 0, 9);
        Checks.due("foresee(5, 2)", z.foresee(5, 2), 1);
        Checks.due("foresee(4, 2)", z.foresee(4, 2), 0);
        Checks.due("foresee(2, 3)", z.foresee(2, 3), 6);
        Checks.due("foresee(6, 4)", z.foresee(6, 4), 300);
        Checks.due("foresee(3, 6)", z.foresee(3, 6), 30);
        Checks.due("foresee(60, 6)", z.foresee(60, 6), 72);
        z.barge(0, 1, 9);
        Checks.due("foresee(1, 5)", z.foresee(1, 5), 1);
        Checks.due("count(5)", z.count(5), 0);
        z.setDrought(true);
        Checks.due("foresee(60, 2) in a drought", z.foresee(60, 2), 1);
        z.work(4);
        Checks.due("foresee(1, 5) in a drought", z.foresee(1, 5), 1);
        Checks.due("foresee(1, 3) in a drought", z.foresee(1, 3), 4);
    }

    private static void promise16HoursBesideTheirRange() {
        Checks.sentence(16, "Throws IllegalArgumentException if hours is not 1 to 60");
        LockBank x = busy();
        for (int hours : Checks.outside(1, 60)) {
            for (int what = 2; what <= 6; what++) {
                int w = what;
                Checks.dueBadNumber(x, "foresee(" + hours + ", " + w + ")", y -> y.foresee(hours, w));
            }
        }
    }

    private static void promise16NoSuchThing() {
        Checks.sentence(16, "Throws IndexOutOfBoundsException if what is not 2 to 6");
        LockBank x = busy();
        for (int what : Checks.outside(2, 6)) {
            Checks.dueNoSuch(x, "foresee(1, " + what + ")", y -> y.foresee(1, what));
            Checks.dueNoSuch(x, "foresee(60, " + what + ")", y -> y.foresee(60, what));
        }
        for (int what : new int[] {-1, 0, 8, 9, 10}) {
            Checks.dueNoSuch(x, "foresee(1, " + what + "), as count() has it", y -> y.foresee(1, what));
        }
    }

    private static void promise16HoursAreAskedFirst() {
        Checks.sentence(16, "If several exceptions apply, the one that is named first is thrown.");
        LockBank x = busy();
        for (int hours : Checks.outside(1, 60)) {
            for (int what : Checks.outside(2, 6)) {
                Checks.dueBadNumber(x, "foresee(" + hours + ", " + what + ")", y -> y.foresee(hours, what));
            }
        }
    }

    private static void promise16ChangesNothing() {
        Checks.sentence(16, "(nothing is changed)");
        LockBank x = busy();
        for (int what = 2; what <= 6; what++) {
            int w = what;
            Checks.dueUnchanged(x, "foresee(60, " + what + ")", y -> y.foresee(60, w));
        }
        dueAsOneThatDidNotLook(x);
    }

    private static void promise17TheMostCoins() {
        Checks.sentence(17, "the mark of the mill by which the bank has the most coins behind so many hours");
        LockBank x = Scenes.withSpring(0);
        x.setMill(5, 100);
        // 2 coins for each 10 drawn, and no more than 10 in an hour out of 60.
        int[] due = {50, 40, 30, 20, 10, 0, 0};
        for (int hours = 1; hours <= due.length; hours++) {
            Checks.due("advise(" + hours + ")", x.advise(hours), due[hours - 1]);
        }
        Checks.due("advise(40)", x.advise(40), 0);
    }

    private static void promise17TensAlone() {
        Checks.sentence(17, "Returns this, of 0, 10, 20 and so on up to 100");
        // Out of 48, 38 is the greatest mark for 2 coins: 30 of those that are looked at.
        LockBank x = Scenes.withOneAt(5, 48, 50);
        x.setMill(5, 38);
        Checks.due("advise(1) out of 48", x.advise(1), 30);
        Checks.due("advise(2) out of 48", x.advise(2), 20);
        // The mark 95 would bring a coin, no ten does so above 90.
        LockBank z = Scenes.withWaters(new int[] {50, 50, 50, 50, 50, 100});
        z.setMill(5, 95);
        Checks.due("advise(1) out of 100", z.advise(1), 90);
        Checks.due("advise(1) out of 4", adviseOutOf(4), 100);
        Checks.due("advise(1) out of 5", adviseOutOf(5), 0);
    }

    private static int adviseOutOf(int water) {
        LockBank x = Scenes.withOneAt(0, water, 50);
        x.setMill(0, 50);
        return x.advise(1);
    }

    private static LockBank tenDown() {
        LockBank x = Scenes.withOneAt(5, 100, 50);
        x.setFee(20);
        for (int i = 0; i < 10; i++) {
            x.barge(5, 4, 20);
        }
        return x;
    }

    private static void promise17FeesCountToo() {
        Checks.sentence(17, "by which the bank has the most coins");
        LockBank x = tenDown();
        x.setMill(5, 0);
        // Each barge pays 20 for 12 water: six of them by the mark 100, five by any other one. In five
        // hours all marks down to 60 leave enough for five, and 60 brings 4 coins more.
        Checks.due("advise(6)", x.advise(6), 100);
        Checks.due("advise(5)", x.advise(5), 60);
        for (int hours = 1; hours <= 40; hours++) {
            Checks.due("advise(" + hours + ")", x.advise(hours), bestOfTen(hours));
        }
    }

    private static int bestOfTen(int hours) {
        int best = -1;
        int most = -1;
        for (int mark = 100; mark >= 0; mark -= 10) {
            LockBank x = tenDown();
            x.setMill(5, mark);
            x.pass(hours);
            if (x.count(3) > most) {
                most = x.count(3);
                best = mark;
            }
        }
        return best;
    }

    private static void promise17OfSeveralTheGreatestOne() {
        Checks.sentence(17, "of several the greatest one");
        LockBank x = new LockBank();
        for (int hours = 1; hours <= 40; hours++) {
            Checks.due("advise(" + hours + ") without a mill", x.advise(hours), 100);
        }
        x.setMill(-1, 35);
        Checks.due("advise(7) without a mill", x.advise(7), 100);
        LockBank dry = Scenes.withOneAt(5, 0, 50);
        dry.setMill(5, 0);
        Checks.due("advise(40) out of none", dry.advise(40), 100);
    }

    private static void promise17HoursBesideTheirRange() {
        Checks.sentence(17, "Throws IllegalArgumentException if hours is not 1 to 40");
        LockBank x = busy();
        for (int hours : Checks.outside(1, 40)) {
            Checks.dueBadNumber(x, "advise(" + hours + ")", y -> y.advise(hours));
        }
        Checks.dueBadNumber(x, "advise(60)", y -> y.advise(60));
    }

    private static void promise17ChangesNothing() {
        Checks.sentence(17, "(nothing is changed)");
        LockBank x = busy();
        Checks.dueUnchanged(x, "advise(40)", y -> y.advise(40));
        Checks.due("count(8)", x.count(8), 40);
        dueAsOneThatDidNotLook(x);
    }

    private static void promise18NoneWithoutBarges() {
        Checks.sentence(18, "(0, if that is the coming one, so also without barges, or if all have come)");
        Checks.due("stops() without barges", new LockBank().stops(), 0);
    }

    private static void promise18NoneIfAllHaveCome() {
        Checks.sentence(18, "(0, [..] or if all have come)");
        LockBank x = new LockBank();
        for (int i = 0; i < 10; i++) {
            x.barge(i % 6, i % 6, 9);
        }
        Checks.due("stops(), all have come", x.stops(), 0);
        LockBank z = new LockBank();
        z.barge(2, 1, 9);
        Checks.due("stops() ahead", z.stops(), 1);
        z.pass(1);
        Checks.due("stops() then", z.stops(), 0);
    }

    private static void promise18NoneIfTheComingHourIsIdle() {
        Checks.sentence(18, "0, if that is the coming one");
        LockBank x = new LockBank();
        x.barge(0, 5, 0);
        Checks.due("stops() with one that can't pay", x.stops(), 0);
        // The hour behind the coming one is not idle.
        LockBank z = Scenes.withOneAt(5, 31, 50);
        z.setSpring(1, 1);
        z.barge(5, 4, 9);
        Checks.due("stops() with one that waits for water", z.stops(), 0);
        Checks.due("pass(1)", z.pass(1), 0);
        Checks.due("stops() then", z.stops(), 1);
        Checks.due("pass(1) then", z.pass(1), 1);
        LockBank dry = new LockBank();
        dry.setDrought(true);
        dry.barge(5, 0, 9);
        Checks.due("stops() with one that does not fit in a drought", dry.stops(), 0);
        dry.work(4);
        Checks.due("stops() with one that fits in a drought", dry.stops(), 1);
    }

    private static void promise18AheadOfTheFirstIdleHour() {
        Checks.sentence(18, "how many hours go by ahead of the first one in which no barge is served at all");
        for (int way = 1; way <= 5; way++) {
            LockBank x = new LockBank();
            x.barge(5, 5 - way, 9);
            x.barge(0, 5, 0);
            Checks.due("stops() with a way of " + way, x.stops(), way);
        }
        // Busy, idle, busy: the second one is the first idle hour.
        LockBank z = Scenes.withOneAt(5, 43, 50);
        z.setSpring(2, 1);
        z.barge(5, 4, 9);
        z.barge(5, 4, 9);
        Checks.due("stops() of busy, idle, busy", z.stops(), 1);
        Checks.due("pass(1)", z.pass(1), 1);
        Checks.due("stops() of idle, busy", z.stops(), 0);
        Checks.due("pass(1) then", z.pass(1), 0);
        Checks.due("stops() of busy, idle", z.stops(), 1);
        Checks.due("pass(1) at last", z.pass(1), 1);
        Checks.due("stops() at last", z.stops(), 0);
    }

    /**
     * An hour that is not idle serves one, and ten barges are served at most 50 times if nothing is done:
     * so none of 60 hours being idle can't be reached, and long rows are tried instead.
     */
    private static void promise18LongRows() {
        Checks.sentence(18, "of the next 60, if nothing is done");
        LockBank x = Scenes.withSpring(30);
        for (int i = 0; i < 10; i++) {
            x.barge(5, 0, 99);
        }
        Checks.due("stops() of ten, one behind the other", x.stops(), 14);
        Checks.due("pass(14)", x.pass(14), 50);
        Checks.due("stops() then", x.stops(), 0);
        LockBank z = bothWays();
        LockBank v = bothWays();
        int busy = 0;
        while (busy < 60 && v.pass(1) > 0) {
            busy++;
        }
        Checks.due("stops() with both ways", z.stops(), busy);
    }

    private static LockBank bothWays() {
        LockBank x = Scenes.withSpring(12);
        for (int i = 0; i < 5; i++) {
            x.barge(5, 0, 99);
            x.barge(0, 5, 99);
        }
        return x;
    }

    private static void promise18ChangesNothing() {
        Checks.sentence(18, "(nothing is changed)");
        LockBank x = busy();
        Checks.dueUnchanged(x, "stops()", y -> y.stops());
        dueAsOneThatDidNotLook(x);
    }
}
