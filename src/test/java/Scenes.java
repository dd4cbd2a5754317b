/** Canals that several tests begin with, made by the calls of the face alone. */
final class Scenes {
    private Scenes() {
    }

    /** A new canal whose spring gives the same water in all hours. */
    static LockBank withSpring(int by) {
        LockBank x = new LockBank();
        for (int hour = 0; hour < 8; hour++) {
            x.setSpring(hour, by);
        }
        return x;
    }

    /**
     * A canal without a spring, in the hour 2, whose bank has 40 coins: two barges paid 20 each in the
     * lock 4 and have come. The waters are 60, 60, 60, 60, 84, 36; no chamber is full; the fee is 1.
     */
    static LockBank withFortyCoins() {
        LockBank x = withSpring(0);
        x.setFee(20);
        x.barge(5, 4, 20);
        x.barge(5, 4, 20);
        x.pass(2);
        x.setFee(1);
        return x;
    }

    /**
     * A canal without a spring and a mill, in the hour 6, whose mill has drawn a pound down to a water of
     * 0 to 48; the chamber of the lock below it is full or empty.
     */
    static LockBank withPoundDrawnTo(int pound, int water, boolean full) {
        LockBank x = withSpring(0);
        if (full) {
            x.work(pound - 1);
        }
        x.setMill(pound, water);
        x.pass(6);
        x.setMill(-1, 50);
        return x;
    }
}
