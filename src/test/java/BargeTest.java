/** Promises 8 to 10: barges. */
public final class BargeTest {
    public static void main(String[] args) {
        promise8Barge();
        promise8AtMostTen();
        promise8Throws();
        promise9Send();
        promise9SentOnWaitsAgain();
        promise10Told();
        promise10Throws();
        Checks.end();
    }

    private static void dueBarge(LockBank x, int barge, int... told) {
        for (int what = 0; what < told.length; what++) {
            Checks.due("told(" + barge + ", " + what + ")", x.told(barge, what), told[what]);
        }
    }

    private static void promise8Barge() {
        LockBank x = new LockBank();
        Checks.due("barge(5, 0, 0)", x.barge(5, 0, 0), 0);
        Checks.due("barge(0, 5, 99)", x.barge(0, 5, 99), 1);
        Checks.due("barge(3, 3, 7)", x.barge(3, 3, 7), 2);
        dueBarge(x, 0, 5, 0, 0, 0, 4);
        dueBarge(x, 1, 0, 5, 99, 0, 0);
        dueBarge(x, 2, 3, 3, 7, 0, -1);
        Checks.due("count(1)", x.count(1), 3);
        Checks.due("count(2)", x.count(2), 1);
    }

    private static void promise8AtMostTen() {
        LockBank x = new LockBank();
        for (int i = 0; i < 10; i++) {
            Checks.due("barge " + i, x.barge(i % 6, (i + 1) % 6, i), i);
        }
        Checks.dueBadState(x, "the barge 10", y -> y.barge(0, 0, 0));
        Checks.dueNoSuch(x, "the barge 10 to 6", y -> y.barge(0, 6, 0));
        Checks.dueBadNumber(x, "the barge 10 with 100 coins", y -> y.barge(0, 0, 100));
        x.pass(60);
        Checks.dueBadState(x, "the barge 10, later", y -> y.barge(0, 0, 0));
        Checks.due("count(1)", x.count(1), 10);
    }

    private static void promise8Throws() {
        LockBank x = new LockBank();
        for (int pound : new int[] {-1, 6, Integer.MIN_VALUE, Integer.MAX_VALUE}) {
            Checks.dueNoSuch(x, "barge(" + pound + ", 0, 1)", y -> y.barge(pound, 0, 1));
            Checks.dueNoSuch(x, "barge(0, " + pound + ", 1)", y -> y.barge(0, pound, 1));
            Checks.dueNoSuch(x, "barge(0, " + pound + ", 100)", y -> y.barge(0, pound, 100));
            Checks.dueNoSuch(x, "barge(" + pound + ", 0, -1)", y -> y.barge(pound, 0, -1));
        }
        for (int coins : new int[] {-1, 100, Integer.MIN_VALUE, Integer.MAX_VALUE}) {
            Checks.dueBadNumber(x, "barge(5, 0, " + coins + ")", y -> y.barge(5, 0, coins));
        }
        Checks.due("count(1) behind wrong calls", x.count(1), 0);
        Checks.due("barge behind wrong calls", x.barge(5, 0, 1), 0);
    }

    private static void promise9Send() {
        LockBank x = new LockBank();
        x.barge(2, 4, 5);
        x.barge(2, 2, 5);
        Checks.due("send(0, 0)", x.send(0, 0), 4);
        dueBarge(x, 0, 2, 0, 5, 0, 1);
        Checks.due("send(0, 5)", x.send(0, 5), 0);
        dueBarge(x, 0, 2, 5, 5, 0, 2);
        Checks.due("send(0, 2)", x.send(0, 2), 5);
        dueBarge(x, 0, 2, 2, 5, 0, -1);
        dueBarge(x, 1, 2, 2, 5, 0, -1);
        for (int barge : new int[] {-1, 2, 9, 10, Integer.MIN_VALUE, Integer.MAX_VALUE}) {
            Checks.dueNoSuch(x, "send(" + barge + ", 0)", y -> y.send(barge, 0));
        }
        for (int to : new int[] {-1, 6, Integer.MIN_VALUE, Integer.MAX_VALUE}) {
            Checks.dueNoSuch(x, "send(1, " + to + ")", y -> y.send(1, to));
        }
    }

    private static void promise9SentOnWaitsAgain() {
        LockBank x = new LockBank();
        x.barge(1, 0, 9);
        x.pass(1);
        dueBarge(x, 0, 0, 0, 8, 1, -1);
        Checks.due("pass(3) of one that has come", x.pass(3), 0);
        Checks.due("send(0, 2)", x.send(0, 2), 0);
        dueBarge(x, 0, 0, 2, 8, 1, 0);
        Checks.due("pass(1) of one that was sent on", x.pass(1), 1);
        dueBarge(x, 0, 1, 2, 7, 2, 1);
    }

    private static void promise10Told() {
        LockBank x = new LockBank();
        x.setFee(3);
        x.barge(5, 3, 10);
        x.barge(1, 4, 4);
        x.pass(1);
        dueBarge(x, 0, 4, 3, 7, 1, 3);
        dueBarge(x, 1, 2, 4, 1, 1, 2);
        x.pass(1);
        dueBarge(x, 0, 3, 3, 4, 2, -1);
        dueBarge(x, 1, 2, 4, 1, 1, 2);
        for (int from = 0; from < 6; from++) {
            for (int to = 0; to < 6; to++) {
                LockBank z = new LockBank();
                z.barge(from, to, 0);
                int want = from == to ? -1 : to < from ? from - 1 : from;
                Checks.due("told(0, 4) from " + from + " to " + to, z.told(0, 4), want);
            }
        }
    }

    private static void promise10Throws() {
        LockBank x = new LockBank();
        Checks.dueNoSuch(x, "told(0, 0) without barges", y -> y.told(0, 0));
        x.barge(4, 1, 5);
        for (int barge : new int[] {-1, 1, 10, Integer.MIN_VALUE, Integer.MAX_VALUE}) {
            Checks.dueNoSuch(x, "told(" + barge + ", 0)", y -> y.told(barge, 0));
        }
        for (int what : new int[] {-1, 5, Integer.MIN_VALUE, Integer.MAX_VALUE}) {
            Checks.dueNoSuch(x, "told(0, " + what + ")", y -> y.told(0, what));
        }
    }
}
