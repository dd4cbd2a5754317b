import java.math.BigInteger;

/** Promises 11 to 13, 19 and 20: what there is, the mean, and the checksum. */
public final class TellingTest {
    private static final int[] LOW = {0, 0, 0, 0, 0, 0};
    private static final int[] BRIM = {100, 100, 100, 100, 100, 100};

    public static void main(String[] args) {
        promise11Water();
        promise11BargesAtIt();
        promise11RanOver();
        promise11Drawn();
        promise11NoSuchPound();
        promise11NoSuchThing();
        promise12Full();
        promise12BargesThatWait();
        promise12BargesServed();
        promise12WaterOfFillings();
        promise12NoneToServe();
        promise12TheOneToServe();
        promise12ServedJustNowWaitsAgain();
        promise12NoSuchLock();
        promise12NoSuchThing();
        promise13TellsTenThings();
        promise13AwayFromThePoundZero();
        promise13NoneForTheMill();
        promise13NoSuchThing();
        promise19Mean();
        promise19MeanOfNoneAndOfAll();
        promise20OfANewOne();
        promise20InTheirOrder();
        promise20WithTenBarges();
        promise20Drought();
        tellingChangesNothing();
        Checks.end();
    }

    private static void promise11Water() {
        Checks.sentence(11, "0 its water");
        int[] waters = {0, 1, 20, 50, 99, 100};
        Checks.duePounds(Scenes.withWaters(waters), "as made", waters);
    }

    private static void promise11BargesAtIt() {
        Checks.sentence(11, "1 barges at it");
        LockBank x = Scenes.withSpring(0);
        x.barge(3, 3, 0);
        x.barge(3, 0, 0);
        x.barge(0, 5, 0);
        x.barge(5, 5, 0);
        int[] due = {1, 0, 0, 2, 0, 1};
        for (int p = 0; p < due.length; p++) {
            Checks.due("pound(" + p + ", 1)", x.pound(p, 1), due[p]);
        }
        x.setFee(0);
        x.pass(1);
        int[] later = {0, 1, 1, 1, 0, 1};
        for (int p = 0; p < later.length; p++) {
            Checks.due("pound(" + p + ", 1) behind an hour", x.pound(p, 1), later[p]);
        }
    }

    private static void promise11RanOver() {
        Checks.sentence(11, "2 what ran over from it in all");
        LockBank x = Scenes.withSpring(20);
        x.pass(2);
        Checks.due("pound(5, 0) at the brim", x.pound(5, 0), 100);
        Checks.due("pound(5, 2) at the brim", x.pound(5, 2), 0);
        x.pass(3);
        Checks.due("pound(5, 2) behind three hours", x.pound(5, 2), 60);
        Checks.due("pound(4, 2) behind three hours", x.pound(4, 2), 20);
        Checks.due("pound(3, 2) behind three hours", x.pound(3, 2), 0);
    }

    private static void promise11Drawn() {
        Checks.sentence(11, "3 what the mill drew out of it in all");
        LockBank x = Scenes.withSpring(0);
        x.setMill(3, 45);
        x.pass(1);
        Checks.due("pound(3, 3)", x.pound(3, 3), 10);
        x.pass(2);
        Checks.due("pound(3, 3) at the mark", x.pound(3, 3), 15);
        Checks.due("pound(2, 3)", x.pound(2, 3), 0);
        x.setMill(2, 74);
        x.pass(1);
        Checks.due("pound(3, 3) when the mill is elsewhere", x.pound(3, 3), 15);
        Checks.due("pound(2, 3) when the mill is there", x.pound(2, 3), 1);
        Checks.due("pound(3, 2): drawn is not run over", x.pound(3, 2), 0);
    }

    private static void promise11NoSuchPound() {
        Checks.sentence(11, "Throws IndexOutOfBoundsException if pound is not 0 to 5");
        LockBank x = new LockBank();
        for (int pound : Checks.outside(0, 5)) {
            for (int what = 0; what < 5; what++) {
                int w = what;
                Checks.dueNoSuch(x, "pound(" + pound + ", " + w + ")", y -> y.pound(pound, w));
            }
        }
        Checks.due("pound(0, 0)", x.pound(0, 0), 60);
        Checks.due("pound(5, 0)", x.pound(5, 0), 60);
    }

    private static void promise11NoSuchThing() {
        Checks.sentence(11, "Throws IndexOutOfBoundsException if [..] what is not 0 to 3");
        LockBank x = new LockBank();
        for (int what : Checks.outside(0, 3)) {
            Checks.dueNoSuch(x, "pound(0, " + what + ")", y -> y.pound(0, what));
            Checks.dueNoSuch(x, "pound(5, " + what + ")", y -> y.pound(5, what));
        }
        Checks.due("pound(5, 3)", x.pound(5, 3), 0);
    }

    private static void promise12Full() {
        Checks.sentence(12, "0 1 if its chamber is full, else 0");
        LockBank x = Scenes.withSpring(0);
        Checks.due("lock(4, 0) at first", x.lock(4, 0), 0);
        x.barge(4, 5, 9);
        x.pass(1);
        Checks.due("lock(4, 0) behind one up", x.lock(4, 0), 1);
        Checks.due("lock(3, 0) behind one up", x.lock(3, 0), 0);
        x.send(0, 4);
        x.pass(1);
        Checks.due("lock(4, 0) behind one down", x.lock(4, 0), 0);
    }

    private static void promise12BargesThatWait() {
        Checks.sentence(12, "1 barges that wait at it");
        LockBank x = Scenes.withSpring(0);
        x.barge(2, 5, 9);
        x.barge(3, 0, 9);
        x.barge(2, 3, 0);
        x.barge(2, 2, 9);
        x.barge(3, 3, 9);
        int[] due = {0, 0, 3, 0, 0};
        for (int k = 0; k < due.length; k++) {
            Checks.due("lock(" + k + ", 1)", x.lock(k, 1), due[k]);
        }
        x.pass(1);
        int[] later = {0, 0, 2, 1, 0};
        for (int k = 0; k < later.length; k++) {
            Checks.due("lock(" + k + ", 1) behind an hour", x.lock(k, 1), later[k]);
        }
    }

    private static void promise12BargesServed() {
        Checks.sentence(12, "2 barges that it served in all");
        LockBank x = Scenes.withSpring(0);
        x.barge(2, 3, 9);
        x.barge(2, 3, 9);
        x.pass(1);
        Checks.due("lock(2, 2)", x.lock(2, 2), 1);
        x.work(2);
        x.work(2);
        Checks.due("lock(2, 2) behind work", x.lock(2, 2), 1);
        x.pass(5);
        Checks.due("lock(2, 2) behind both", x.lock(2, 2), 2);
        Checks.due("lock(1, 2)", x.lock(1, 2), 0);
        Checks.due("lock(3, 2)", x.lock(3, 2), 0);
    }

    private static void promise12WaterOfFillings() {
        Checks.sentence(12, "3 the water of its fillings in all (by work(), too)");
        LockBank x = Scenes.withSpring(0);
        x.barge(2, 3, 9);
        x.barge(3, 2, 9);
        x.pass(1);
        Checks.due("lock(2, 3) behind one up", x.lock(2, 3), 12);
        x.pass(1);
        Checks.due("lock(2, 3) behind one down, full", x.lock(2, 3), 12);
        x.work(2);
        Checks.due("lock(2, 3) behind work", x.lock(2, 3), 24);
        x.work(2);
        Checks.due("lock(2, 3) behind an emptying", x.lock(2, 3), 24);
        x.send(0, 2);
        x.pass(1);
        Checks.due("lock(2, 3) behind one down, empty", x.lock(2, 3), 36);
    }

    private static void promise12NoneToServe() {
        Checks.sentence(12, "4 the barge that it would serve [..], -1 for none");
        LockBank x = Scenes.withSpring(0);
        Checks.due("lock(3, 4) without barges", x.lock(3, 4), -1);
        x.barge(4, 4, 9);
        Checks.due("lock(3, 4) with one that has come", x.lock(3, 4), -1);
        x.barge(4, 3, 0);
        Checks.due("lock(3, 4) with one that can't pay", x.lock(3, 4), -1);
        x.barge(4, 5, 9);
        Checks.due("lock(3, 4) with one at another lock", x.lock(3, 4), -1);
        Checks.due("lock(4, 4) of that one", x.lock(4, 4), 2);
        x.setFee(0);
        Checks.due("lock(3, 4) without a fee", x.lock(3, 4), 1);
        x.setDrought(true);
        Checks.due("lock(3, 4) in a drought", x.lock(3, 4), -1);
        LockBank z = Scenes.withOneAt(4, 31, 100);
        z.barge(4, 3, 9);
        z.barge(3, 4, 9);
        Checks.due("lock(3, 4) without a filling", z.lock(3, 4), -1);
    }

    private static void promise12TheOneToServe() {
        Checks.sentence(12, "4 the barge that it would serve, if its turn came now, with all as it is");
        LockBank x = Scenes.withSpring(0);
        x.barge(4, 3, 9);
        x.barge(4, 3, 9);
        Checks.due("lock(3, 4) with two that do not fit", x.lock(3, 4), 0);
        x.barge(3, 4, 9);
        x.barge(3, 4, 9);
        Checks.due("lock(3, 4) with two that fit", x.lock(3, 4), 2);
        x.work(3);
        Checks.due("lock(3, 4) when it is full", x.lock(3, 4), 0);
        Checks.dueUnchanged(x, "lock(3, 4)", y -> y.lock(3, 4));
        x.pass(1);
        Checks.due("told(0, 3): it was that one", x.told(0, 3), 1);
    }

    private static void promise12ServedJustNowWaitsAgain() {
        Checks.sentence(12, "one that has just been served by a lock in this hour does not wait any more in it");
        LockBank x = Scenes.withSpring(0);
        x.barge(5, 0, 9);
        x.pass(1);
        Checks.due("lock(3, 4) behind the hour", x.lock(3, 4), 0);
        Checks.due("lock(3, 1) behind the hour", x.lock(3, 1), 1);
    }

    private static void promise12NoSuchLock() {
        Checks.sentence(12, "Throws IndexOutOfBoundsException if lock is not 0 to 4");
        LockBank x = new LockBank();
        for (int lock : Checks.outside(0, 4)) {
            for (int what = 0; what < 6; what++) {
                int w = what;
                Checks.dueNoSuch(x, "lock(" + lock + ", " + w + ")", y -> y.lock(lock, w));
            }
        }
        Checks.due("lock(0, 4)", x.lock(0, 4), -1);
        Checks.due("lock(4, 4)", x.lock(4, 4), -1);
    }

    private static void promise12NoSuchThing() {
        Checks.sentence(12, "Throws IndexOutOfBoundsException if [..] what is not 0 to 4");
        LockBank x = new LockBank();
        for (int what : Checks.outside(0, 4)) {
            Checks.dueNoSuch(x, "lock(0, " + what + ")", y -> y.lock(0, what));
            Checks.dueNoSuch(x, "lock(4, " + what + ")", y -> y.lock(4, what));
        }
    }

    private static void promise13TellsTenThings() {
        Checks.sentence(13, "0 the hour, 1 barges, 2 those that have come, 3 coins of the bank, 4 the water of all pounds");
        LockBank x = Scenes.withSpring(30);
        x.setMill(0, 40);
        x.setFee(2);
        x.barge(5, 4, 9);
        x.barge(0, 2, 9);
        x.barge(1, 1, 9);
        x.pass(1);
        // 5: 60 + 30 - 12; 4: 60 + 12; 1: 60 - 12; 0: 60 - 10
        Checks.duePounds(x, "behind an hour", 50, 48, 60, 60, 72, 78);
        int[] counts = {1, 3, 2, 6, 368, 1, 10, 2, 40, 0};
        for (int what = 0; what < counts.length; what++) {
            Checks.due("count(" + what + ")", x.count(what), counts[what]);
            int w = what;
            Checks.dueUnchanged(x, "count(" + what + ")", y -> y.count(w));
        }
        Checks.due("count(4) of empty pounds", Scenes.withWaters(LOW).count(4), 0);
        Checks.due("count(4) of full pounds", Scenes.withWaters(BRIM).count(4), 600);
        Checks.due("count(5) of full chambers", Scenes.withWaters(LOW, 0, 1, 2, 3, 4).count(5), 5);
    }

    private static void promise13AwayFromThePoundZero() {
        Checks.sentence(13, "6 what ran away or was drawn away from the pound 0 in all");
        LockBank x = Scenes.withFortyCoins();
        x.setMill(1, 50);
        x.pass(1);
        Checks.due("count(6) when the mill is at 1", x.count(6), 0);
        x.setMill(-1, 50);
        x.water(0, 30);
        Checks.due("count(6) at the brim", x.count(6), 0);
        x.water(0, 10);
        Checks.due("count(6) behind a run over", x.count(6), 10);
        x.setMill(0, 93);
        x.pass(1);
        Checks.due("count(6) behind both", x.count(6), 17);
        Checks.due("pound(0, 2)", x.pound(0, 2), 10);
        Checks.due("pound(0, 3)", x.pound(0, 3), 7);
    }

    private static void promise13NoneForTheMill() {
        Checks.sentence(13, "9 its pound, -1 for none");
        LockBank x = new LockBank();
        Checks.due("count(9) at first", x.count(9), -1);
        x.setMill(0, 1);
        Checks.due("count(9) at 0", x.count(9), 0);
        x.setMill(-1, 1);
        Checks.due("count(9) at none", x.count(9), -1);
    }

    private static void promise13NoSuchThing() {
        Checks.sentence(13, "Throws IndexOutOfBoundsException if what is not 0 to 9");
        LockBank x = new LockBank();
        for (int what : Checks.outside(0, 9)) {
            Checks.dueNoSuch(x, "count(" + what + ")", y -> y.count(what));
        }
        Checks.due("count(0)", x.count(0), 0);
        Checks.due("count(9)", x.count(9), -1);
    }

    private static void promise19Mean() {
        Checks.sentence(19, "Returns the mean of the water of all pounds.");
        LockBank x = new LockBank();
        Checks.dueDouble("mean() of a new one", x.mean(), 60.0);
        x.setSpring(0, 1);
        x.pass(1);
        Checks.dueDouble("mean() of 361", x.mean(), 361.0 / 6.0);
        x.work(0);
        Checks.dueDouble("mean() of 349", x.mean(), 349.0 / 6.0);
        x.setSpring(1, 14);
        x.pass(1);
        Checks.dueDouble("mean() of 363", x.mean(), 60.5);
        Checks.dueUnchanged(x, "mean()", y -> (long) y.mean());
    }

    private static void promise19MeanOfNoneAndOfAll() {
        Checks.sentence(19, "each has water, 0 to 100");
        Checks.dueDouble("mean() of empty pounds", Scenes.withWaters(LOW).mean(), 0.0);
        Checks.dueDouble("mean() of full pounds", Scenes.withWaters(BRIM).mean(), 100.0);
        Checks.dueDouble("mean() of 1 in all", Scenes.withOneAt(0, 1, 0).mean(), 1.0 / 6.0);
        Checks.dueDouble("mean() of 599", Scenes.withOneAt(5, 99, 100).mean(), 599.0 / 6.0);
    }

    /** What the document asks of digest(), in numbers of any length: it wraps around at the end alone. */
    private static final class Sum {
        private BigInteger d = BigInteger.valueOf(1453);

        void add(long... numbers) {
            for (long x : numbers) {
                d = d.multiply(BigInteger.valueOf(31)).add(BigInteger.valueOf(x));
            }
        }

        long wrapped() {
            return d.longValue();
        }
    }

    private static void promise20OfANewOne() {
        Checks.sentence(20, "d becomes d * 31 + x, which wraps around as a 64-bit integer");
        Sum s = new Sum();
        s.add(0, 0, 0, 0, 360, 0, 0, 1, 50, -1);
        s.add(0);
        s.add(8, 8, 8, 8, 8, 8, 8, 8);
        for (int p = 0; p < 6; p++) {
            s.add(60, 0, 0, 0);
        }
        for (int k = 0; k < 5; k++) {
            s.add(0, 0, 0, 0, -1);
        }
        Checks.due("digest() of a new one", new LockBank().digest(), s.wrapped());
    }

    private static void promise20InTheirOrder() {
        Checks.sentence(20, "what count() tells, in its order; 1 if there is a drought, else 0; the table of the spring; for each pound [..], for each lock [..], for each barge");
        LockBank x = new LockBank();
        int[] table = {3, 1, 4, 1, 5, 9, 2, 6};
        for (int hour = 0; hour < 8; hour++) {
            x.setSpring(hour, table[hour]);
        }
        x.setMill(4, 30);
        x.setFee(2);
        x.barge(5, 1, 40);
        x.barge(0, 4, 3);
        x.barge(2, 2, 5);
        x.pass(4);
        Checks.due("digest()", x.digest(), digestOf(x, table, 0));
        Checks.due("digest() again", x.digest(), digestOf(x, table, 0));
    }

    private static void promise20WithTenBarges() {
        Checks.sentence(20, "for each barge what told() tells");
        LockBank x = Scenes.withSpring(7);
        int[] table = {7, 7, 7, 7, 7, 7, 7, 7};
        for (int i = 0; i < 10; i++) {
            x.barge(i % 6, 5 - i % 6, 9 * i);
            Checks.due("digest() of " + (i + 1), x.digest(), digestOf(x, table, 0));
        }
        x.pass(3);
        Checks.due("digest() of ten, later", x.digest(), digestOf(x, table, 0));
    }

    private static void promise20Drought() {
        Checks.sentence(20, "1 if there is a drought, else 0");
        LockBank x = Scenes.withSpring(7);
        int[] table = {7, 7, 7, 7, 7, 7, 7, 7};
        x.setDrought(true);
        Checks.due("digest() in a drought", x.digest(), digestOf(x, table, 1));
        x.setDrought(false);
        Checks.due("digest() without", x.digest(), digestOf(x, table, 0));
    }

    private static long digestOf(LockBank x, int[] table, int drought) {
        Sum s = new Sum();
        for (int what = 0; what < 10; what++) {
            s.add(x.count(what));
        }
        s.add(drought);
        for (int by : table) {
            s.add(by);
        }
        for (int p = 0; p < 6; p++) {
            s.add(x.pound(p, 0), x.pound(p, 1), x.pound(p, 2), x.pound(p, 3));
        }
        for (int k = 0; k < 5; k++) {
            s.add(x.lock(k, 0), x.lock(k, 1), x.lock(k, 2), x.lock(k, 3), x.lock(k, 4));
        }
        for (int b = 0; b < x.count(1); b++) {
            s.add(x.told(b, 0), x.told(b, 1), x.told(b, 2), x.told(b, 3), x.told(b, 4));
        }
        return s.wrapped();
    }

    private static void tellingChangesNothing() {
        Checks.sentence(11, "Returns this.");
        LockBank x = new LockBank();
        x.barge(5, 0, 9);
        x.pass(2);
        Checks.dueUnchanged(x, "told, pound, lock and count", y ->
                y.told(0, 4) + y.pound(3, 1) + y.lock(2, 4) + y.count(4));
    }
}
