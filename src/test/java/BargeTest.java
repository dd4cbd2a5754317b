/** Promises 8 to 10: barges. */
public final class BargeTest {
    public static void main(String[] args) {
        promise8ReturnsItsNumber();
        promise8TakesTheEndsOfTheRanges();
        promise8HasComeAtOnce();
        promise8NoSuchPound();
        promise8CoinsBesideTheirRange();
        promise8AtMostTen();
        promise8TenInAllAlsoWhenTheyHaveCome();
        promise8PoundsAreAskedFirst();
        promise8CoinsAreAskedAheadOfTheTen();
        promise9ReturnsTheGoalBefore();
        promise9WaitsAgainIfSentOn();
        promise9HasComeIfSentToItsPound();
        promise9TurnsBackOnItsWay();
        promise9NoSuchBarge();
        promise9NoSuchPound();
        promise10TellsFiveThings();
        promise10TheLockOfEachWay();
        promise10NoLockIfItHasCome();
        promise10NoSuchBarge();
        promise10NoSuchThing();
        Checks.end();
    }

    private static LockBank withBarges(int n) {
        LockBank x = new LockBank();
        for (int i = 0; i < n; i++) {
            x.barge(i % 6, (i + 1) % 6, i);
        }
        return x;
    }

    private static void promise8ReturnsItsNumber() {
        Checks.sentence(8, "numbered from 0 in the order of their coming");
        LockBank x = new LockBank();
        for (int i = 0; i < 10; i++) {
            Checks.due("barge " + i, x.barge(i % 6, (i + 2) % 6, i), i);
            Checks.due("count(1)", x.count(1), i + 1);
        }
        for (int i = 0; i < 10; i++) {
            Checks.dueBarge(x, i, i % 6, (i + 2) % 6, i, 0);
        }
    }

    private static void promise8TakesTheEndsOfTheRanges() {
        Checks.sentence(8, "each is at a pound, goes to a pound (its goal), has coins, and has been served so often (0, at first)");
        LockBank x = new LockBank();
        Checks.due("barge(5, 0, 0)", x.barge(5, 0, 0), 0);
        Checks.due("barge(0, 5, 99)", x.barge(0, 5, 99), 1);
        Checks.dueBarge(x, 0, 5, 0, 0, 0, 4);
        Checks.dueBarge(x, 1, 0, 5, 99, 0, 0);
        Checks.due("count(2)", x.count(2), 0);
    }

    private static void promise8HasComeAtOnce() {
        Checks.sentence(8, "One that is at its goal has come (at once, and waits again if it is sent on).");
        LockBank x = new LockBank();
        for (int pound = 0; pound < 6; pound++) {
            Checks.due("barge(" + pound + ", " + pound + ", 7)", x.barge(pound, pound, 7), pound);
            Checks.dueBarge(x, pound, pound, pound, 7, 0, -1);
            Checks.due("count(2)", x.count(2), pound + 1);
        }
        Checks.due("pass(60)", x.pass(60), 0);
    }

    private static void promise8NoSuchPound() {
        Checks.sentence(8, "Throws IndexOutOfBoundsException if from or to is not 0 to 5");
        LockBank x = new LockBank();
        for (int pound : Checks.outside(0, 5)) {
            Checks.dueNoSuch(x, "barge(" + pound + ", 0, 1)", y -> y.barge(pound, 0, 1));
            Checks.dueNoSuch(x, "barge(" + pound + ", 5, 1)", y -> y.barge(pound, 5, 1));
            Checks.dueNoSuch(x, "barge(0, " + pound + ", 1)", y -> y.barge(0, pound, 1));
            Checks.dueNoSuch(x, "barge(5, " + pound + ", 1)", y -> y.barge(5, pound, 1));
            Checks.dueNoSuch(x, "barge(" + pound + ", " + pound + ", 1)", y -> y.barge(pound, pound, 1));
        }
        Checks.due("count(1) behind refused calls", x.count(1), 0);
        Checks.due("barge(5, 0, 1)", x.barge(5, 0, 1), 0);
    }

    private static void promise8CoinsBesideTheirRange() {
        Checks.sentence(8, "Throws IllegalArgumentException if coins is not 0 to 99");
        LockBank x = new LockBank();
        for (int coins : Checks.outside(0, 99)) {
            Checks.dueBadNumber(x, "barge(5, 0, " + coins + ")", y -> y.barge(5, 0, coins));
            Checks.dueBadNumber(x, "barge(2, 2, " + coins + ")", y -> y.barge(2, 2, coins));
        }
        Checks.due("count(1) behind refused calls", x.count(1), 0);
        Checks.due("barge(5, 0, 0)", x.barge(5, 0, 0), 0);
        Checks.due("barge(5, 0, 99)", x.barge(5, 0, 99), 1);
    }

    private static void promise8AtMostTen() {
        Checks.sentence(8, "Throws IllegalStateException if 10 came");
        LockBank nine = withBarges(9);
        Checks.due("the barge 9", nine.barge(0, 5, 0), 9);
        Checks.dueBadState(nine, "the barge 10", y -> y.barge(0, 5, 0));
        Checks.dueBadState(nine, "the barge 10, at its goal", y -> y.barge(3, 3, 99));
        Checks.due("count(1)", nine.count(1), 10);
    }

    private static void promise8TenInAllAlsoWhenTheyHaveCome() {
        Checks.sentence(8, "At most 10 can come in all");
        LockBank x = new LockBank();
        for (int i = 0; i < 10; i++) {
            x.barge(5, 5, 9);
        }
        Checks.dueBadState(x, "the barge 10, when all have come", y -> y.barge(0, 0, 0));
        x.pass(60);
        Checks.dueBadState(x, "the barge 10, later", y -> y.barge(0, 0, 0));
    }

    private static void promise8PoundsAreAskedFirst() {
        Checks.sentence(8, "If several exceptions apply, the one that is named first is thrown.");
        for (LockBank x : new LockBank[] {new LockBank(), withBarges(10)}) {
            for (int pound : Checks.outside(0, 5)) {
                Checks.dueNoSuch(x, "barge(" + pound + ", 0, 1)", y -> y.barge(pound, 0, 1));
                Checks.dueNoSuch(x, "barge(0, " + pound + ", 1)", y -> y.barge(0, pound, 1));
                for (int coins : Checks.outside(0, 99)) {
                    Checks.dueNoSuch(x, "barge(" + pound + ", 0, " + coins + ")", y -> y.barge(pound, 0, coins));
                    Checks.dueNoSuch(x, "barge(0, " + pound + ", " + coins + ")", y -> y.barge(0, pound, coins));
                }
            }
        }
    }

    private static void promise8CoinsAreAskedAheadOfTheTen() {
        Checks.sentence(8, "If several exceptions apply, the one that is named first is thrown.");
        LockBank ten = withBarges(10);
        for (int coins : Checks.outside(0, 99)) {
            Checks.dueBadNumber(ten, "the barge 10 with " + coins, y -> y.barge(0, 5, coins));
        }
    }

    private static void promise9ReturnsTheGoalBefore() {
        Checks.sentence(9, "Returns the one before.");
        LockBank x = new LockBank();
        x.barge(2, 4, 5);
        x.barge(2, 2, 5);
        Checks.due("send(0, 0)", x.send(0, 0), 4);
        Checks.dueBarge(x, 0, 2, 0, 5, 0, 1);
        Checks.due("send(0, 5)", x.send(0, 5), 0);
        Checks.dueBarge(x, 0, 2, 5, 5, 0, 2);
        Checks.due("send(0, 5) again", x.send(0, 5), 5);
        Checks.due("send(1, 3)", x.send(1, 3), 2);
        Checks.dueBarge(x, 0, 2, 5, 5, 0, 2);
    }

    private static void promise9WaitsAgainIfSentOn() {
        Checks.sentence(9, "One that is at its goal has come (at once, and waits again if it is sent on).");
        LockBank x = new LockBank();
        x.barge(1, 0, 9);
        x.pass(1);
        Checks.dueBarge(x, 0, 0, 0, 8, 1, -1);
        Checks.due("pass(3) of one that has come", x.pass(3), 0);
        Checks.due("send(0, 2)", x.send(0, 2), 0);
        Checks.dueBarge(x, 0, 0, 2, 8, 1, 0);
        Checks.due("count(2) of one that was sent on", x.count(2), 0);
        Checks.due("pass(1) of one that was sent on", x.pass(1), 1);
        Checks.dueBarge(x, 0, 1, 2, 7, 2, 1);
    }

    private static void promise9HasComeIfSentToItsPound() {
        Checks.sentence(9, "One that is at its goal has come (at once");
        LockBank x = new LockBank();
        x.barge(2, 5, 5);
        Checks.due("send(0, 2)", x.send(0, 2), 5);
        Checks.dueBarge(x, 0, 2, 2, 5, 0, -1);
        Checks.due("count(2)", x.count(2), 1);
        Checks.due("lock(2, 1)", x.lock(2, 1), 0);
        Checks.due("pass(1)", x.pass(1), 0);
    }

    private static void promise9TurnsBackOnItsWay() {
        Checks.sentence(9, "its goal from now on");
        LockBank x = new LockBank();
        x.barge(5, 0, 9);
        x.pass(2);
        Checks.dueBarge(x, 0, 3, 0, 7, 2, 2);
        x.send(0, 5);
        Checks.dueBarge(x, 0, 3, 5, 7, 2, 3);
        x.pass(2);
        Checks.dueBarge(x, 0, 5, 5, 5, 4, -1);
        Checks.due("lock(3, 2): it served the same barge twice", x.lock(3, 2), 2);
    }

    private static void promise9NoSuchBarge() {
        Checks.sentence(9, "Throws IndexOutOfBoundsException if there is no such barge");
        for (int n : new int[] {0, 1, 2, 10}) {
            LockBank x = withBarges(n);
            for (int barge : Checks.outside(0, n - 1)) {
                Checks.dueNoSuch(x, "send(" + barge + ", 0) of " + n, y -> y.send(barge, 0));
                Checks.dueNoSuch(x, "send(" + barge + ", 6) of " + n, y -> y.send(barge, 6));
            }
            if (n > 0) {
                Checks.due("send(" + (n - 1) + ", 3) of " + n, x.send(n - 1, 3), n % 6);
            }
        }
    }

    private static void promise9NoSuchPound() {
        Checks.sentence(9, "Throws IndexOutOfBoundsException if [..] to is not 0 to 5");
        LockBank x = withBarges(3);
        for (int to : Checks.outside(0, 5)) {
            Checks.dueNoSuch(x, "send(1, " + to + ")", y -> y.send(1, to));
        }
        Checks.due("send(1, 0) behind refused calls", x.send(1, 0), 2);
        Checks.due("send(1, 5)", x.send(1, 5), 0);
    }

    private static void promise10TellsFiveThings() {
        Checks.sentence(10, "0 its pound, 1 its goal, 2 its coins, 3 how often it was served, 4 the lock at which it waits");
        LockBank x = new LockBank();
        x.setFee(3);
        x.barge(5, 3, 10);
        x.barge(1, 4, 4);
        x.pass(1);
        Checks.dueBarge(x, 0, 4, 3, 7, 1, 3);
        Checks.dueBarge(x, 1, 2, 4, 1, 1, 2);
        x.pass(1);
        Checks.dueBarge(x, 0, 3, 3, 4, 2, -1);
        Checks.dueBarge(x, 1, 2, 4, 1, 1, 2);
        Checks.dueUnchanged(x, "told(1, 4)", y -> y.told(1, 4));
    }

    private static void promise10TheLockOfEachWay() {
        Checks.sentence(10, "going down, at the lock with the number 1 less than its pound, going up, at that with the number of its pound");
        for (int from = 0; from < 6; from++) {
            for (int to = 0; to < 6; to++) {
                LockBank x = new LockBank();
                x.barge(from, to, 0);
                int lock = from == to ? -1 : to < from ? from - 1 : from;
                Checks.due("told(0, 4) from " + from + " to " + to, x.told(0, 4), lock);
            }
        }
    }

    private static void promise10NoLockIfItHasCome() {
        Checks.sentence(10, "-1 if it has come");
        LockBank x = new LockBank();
        x.barge(4, 5, 9);
        Checks.due("told(0, 4) ahead", x.told(0, 4), 4);
        x.pass(1);
        Checks.due("told(0, 4) at 5", x.told(0, 4), -1);
        x.barge(0, 0, 0);
        Checks.due("told(1, 4) at 0", x.told(1, 4), -1);
    }

    private static void promise10NoSuchBarge() {
        Checks.sentence(10, "Throws IndexOutOfBoundsException if there is no such barge");
        for (int n : new int[] {0, 1, 2, 10}) {
            LockBank x = withBarges(n);
            for (int barge : Checks.outside(0, n - 1)) {
                Checks.dueNoSuch(x, "told(" + barge + ", 0) of " + n, y -> y.told(barge, 0));
                Checks.dueNoSuch(x, "told(" + barge + ", 5) of " + n, y -> y.told(barge, 5));
            }
            if (n > 0) {
                Checks.due("told(" + (n - 1) + ", 2) of " + n, x.told(n - 1, 2), n - 1);
            }
        }
    }

    private static void promise10NoSuchThing() {
        Checks.sentence(10, "Throws IndexOutOfBoundsException if [..] what is not 0 to 4");
        LockBank x = withBarges(3);
        for (int what : Checks.outside(0, 4)) {
            Checks.dueNoSuch(x, "told(0, " + what + ")", y -> y.told(0, what));
            Checks.dueNoSuch(x, "told(2, " + what + ")", y -> y.told(2, what));
        }
    }
}
