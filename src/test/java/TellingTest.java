/** Promises 11 to 13, 19 and 20: what there is, the mean, and the checksum. */
public final class TellingTest {
    public static void main(String[] args) {
        promise11Pound();
        promise12Lock();
        promise12NextBarge();
        promise13Count();
        promise19Mean();
        promise20DigestOfNew();
        promise20DigestOfAll();
        tellingChangesNothing();
        Checks.end();
    }

    private static void promise11Pound() {
        LockBank x = Scenes.withSpring(0);
        x.setMill(3, 45);
        x.barge(3, 3, 0);
        x.barge(3, 0, 0);
        x.barge(0, 5, 0);
        Checks.due("pound(3, 1)", x.pound(3, 1), 2);
        Checks.due("pound(0, 1)", x.pound(0, 1), 1);
        Checks.due("pound(5, 1)", x.pound(5, 1), 0);
        x.pass(1);
        Checks.due("pound(3, 0)", x.pound(3, 0), 50);
        Checks.due("pound(3, 3)", x.pound(3, 3), 10);
        x.pass(1);
        Checks.due("pound(3, 0) at the mark", x.pound(3, 0), 45);
        Checks.due("pound(3, 3) at the mark", x.pound(3, 3), 15);
        Checks.due("pound(2, 0)", x.pound(2, 0), 75);
        Checks.due("pound(2, 3)", x.pound(2, 3), 0);
        for (int pound : new int[] {-1, 6, Integer.MIN_VALUE, Integer.MAX_VALUE}) {
            Checks.dueNoSuch(x, "pound(" + pound + ", 0)", y -> y.pound(pound, 0));
        }
        for (int what : new int[] {-1, 4, Integer.MIN_VALUE, Integer.MAX_VALUE}) {
            Checks.dueNoSuch(x, "pound(0, " + what + ")", y -> y.pound(0, what));
        }
    }

    private static void promise12Lock() {
        LockBank x = Scenes.withSpring(0);
        x.barge(2, 5, 9);
        x.barge(3, 0, 9);
        x.barge(2, 3, 9);
        x.barge(2, 2, 9);
        Checks.due("lock(2, 1)", x.lock(2, 1), 3);
        Checks.due("lock(1, 1)", x.lock(1, 1), 0);
        Checks.due("lock(3, 1)", x.lock(3, 1), 0);
        x.pass(1);
        Checks.due("lock(2, 0)", x.lock(2, 0), 1);
        Checks.due("lock(2, 1) behind an hour", x.lock(2, 1), 2);
        Checks.due("lock(2, 2)", x.lock(2, 2), 1);
        Checks.due("lock(2, 3)", x.lock(2, 3), 12);
        Checks.due("lock(3, 1) behind an hour", x.lock(3, 1), 1);
        x.pass(1);
        Checks.due("lock(2, 2) behind two hours", x.lock(2, 2), 2);
        Checks.due("lock(2, 3) behind two hours", x.lock(2, 3), 12);
        Checks.due("lock(2, 0) behind two hours", x.lock(2, 0), 0);
        x.work(2);
        Checks.due("lock(2, 3) behind work", x.lock(2, 3), 24);
        Checks.due("lock(2, 2) behind work", x.lock(2, 2), 2);
        for (int lock : new int[] {-1, 5, Integer.MIN_VALUE, Integer.MAX_VALUE}) {
            Checks.dueNoSuch(x, "lock(" + lock + ", 0)", y -> y.lock(lock, 0));
        }
        for (int what : new int[] {-1, 5, Integer.MIN_VALUE, Integer.MAX_VALUE}) {
            Checks.dueNoSuch(x, "lock(0, " + what + ")", y -> y.lock(0, what));
        }
    }

    private static void promise12NextBarge() {
        LockBank x = Scenes.withSpring(0);
        Checks.due("lock(3, 4) without barges", x.lock(3, 4), -1);
        x.barge(4, 4, 9);
        x.barge(4, 3, 0);
        Checks.due("lock(3, 4) with one that has come and a poor one", x.lock(3, 4), -1);
        Checks.due("lock(3, 1) with one that has come and a poor one", x.lock(3, 1), 1);
        x.barge(4, 3, 9);
        Checks.due("lock(3, 4) with one that does not fit", x.lock(3, 4), 2);
        x.barge(3, 4, 9);
        x.barge(3, 4, 9);
        Checks.due("lock(3, 4) with one that fits", x.lock(3, 4), 3);
        x.work(3);
        Checks.due("lock(3, 4) full", x.lock(3, 4), 2);
        x.setFee(10);
        Checks.due("lock(3, 4) too dear", x.lock(3, 4), -1);
        x.setFee(0);
        Checks.due("lock(3, 4) free", x.lock(3, 4), 1);
        // Served just now in the hour that is over: it waits again.
        LockBank z = Scenes.withSpring(0);
        z.barge(5, 0, 9);
        z.pass(1);
        Checks.due("lock(3, 4) behind the hour", z.lock(3, 4), 0);
    }

    private static void promise13Count() {
        LockBank x = Scenes.withSpring(30);
        x.setMill(0, 40);
        x.setFee(2);
        x.barge(5, 4, 9);
        x.barge(0, 2, 9);
        x.barge(1, 1, 9);
        x.pass(1);
        // 5: 60 + 30 - 12; 4: 60 + 12; 1: 60 - 12; 0: 60 - 10
        Checks.duePounds(x, "behind an hour", 50, 48, 60, 60, 72, 78);
        int[] counts = {1, 3, 2, 6, 368, 1, 10, 2, 40, 0};
        for (int what = 0; what < counts.length; what++) {
            Checks.due("count(" + what + ")", x.count(what), counts[what]);
        }
        x.setMill(-1, 40);
        x.water(0, 12);
        x.work(0);
        x.work(1);
        x.work(1);
        x.work(2);
        Checks.due("count(5)", x.count(5), 1);
        Checks.due("count(6) at the brim", x.count(6), 10);
        LockBank z = Scenes.withFortyCoins();
        z.setMill(0, 100);
        z.water(0, 50);
        Checks.due("count(6) behind a run over", z.count(6), 10);
        z.setMill(0, 93);
        z.pass(1);
        Checks.due("count(6) behind both", z.count(6), 17);
        for (int what : new int[] {-1, 10, Integer.MIN_VALUE, Integer.MAX_VALUE}) {
            Checks.dueNoSuch(x, "count(" + what + ")", y -> y.count(what));
        }
    }

    private static void promise19Mean() {
        LockBank x = new LockBank();
        Checks.dueDouble("mean() of a new one", x.mean(), 60.0);
        x.setSpring(0, 1);
        x.pass(1);
        Checks.dueDouble("mean() of 361", x.mean(), 361.0 / 6.0);
        x.work(0);
        Checks.dueDouble("mean() of 349", x.mean(), 349.0 / 6.0);
        x.setSpring(1, 14);
        x.pass(1);
        Checks.dueDouble("mean() of 363", x.mean(), 60.5);
        Checks.dueUnchanged(x, "mean()", y -> (long) y.mean());
    }

    private static void promise20DigestOfNew() {
        long d = 1453;
        int[] whole = {0, 0, 0, 0, 360, 0, 0, 1, 50, -1, 0, 8, 8, 8, 8, 8, 8, 8, 8};
        for (int v : whole) {
            d = d * 31 + v;
        }
        for (int p = 0; p < 6; p++) {
            for (int v : new int[] {60, 0, 0, 0}) {
                d = d * 31 + v;
            }
        }
        for (int k = 0; k < 5; k++) {
            for (int v : new int[] {0, 0, 0, 0, -1}) {
                d = d * 31 + v;
            }
        }
        Checks.due("digest() of a new one", new LockBank().digest(), d);
    }

    private static void promise20DigestOfAll() {
        LockBank x = new LockBank();
        int[] table = {3, 1, 4, 1, 5, 9, 2, 6};
        for (int hour = 0; hour < 8; hour++) {
            x.setSpring(hour, table[hour]);
        }
        x.setMill(4, 30);
        x.setFee(2);
        x.barge(5, 1, 40);
        x.barge(0, 4, 3);
        x.barge(2, 2, 5);
        x.pass(4);
        Checks.due("digest() without a drought", x.digest(), digestOf(x, table, 0));
        x.setDrought(true);
        Checks.due("digest() in a drought", x.digest(), digestOf(x, table, 1));
        Checks.due("digest() again", x.digest(), digestOf(x, table, 1));
    }

    private static long digestOf(LockBank x, int[] table, int drought) {
        long d = 1453;
        for (int what = 0; what < 10; what++) {
            d = d * 31 + x.count(what);
        }
        d = d * 31 + drought;
        for (int by : table) {
            d = d * 31 + by;
        }
        for (int p = 0; p < 6; p++) {
            for (int what = 0; what < 4; what++) {
                d = d * 31 + x.pound(p, what);
            }
        }
        for (int k = 0; k < 5; k++) {
            for (int what = 0; what < 5; what++) {
                d = d * 31 + x.lock(k, what);
            }
        }
        for (int b = 0; b < x.count(1); b++) {
            for (int what = 0; what < 5; what++) {
                d = d * 31 + x.told(b, what);
            }
        }
        return d;
    }

    private static void tellingChangesNothing() {
        LockBank x = new LockBank();
        x.barge(5, 0, 9);
        x.pass(2);
        Checks.dueUnchanged(x, "told, pound, lock and count", y ->
                y.told(0, 4) + y.pound(3, 1) + y.lock(2, 4) + y.count(4));
    }
}
