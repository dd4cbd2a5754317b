/** Canals that several tests begin with, made by the calls of the face alone. */
final class Scenes {
    private Scenes() {
    }

    /** A new canal whose spring gives the same water in all hours. */
    static LockBank withSpring(int by) {
        LockBank x = new LockBank();
        setAllHours(x, by);
        return x;
    }

    static void setAllHours(LockBank x, int by) {
        for (int hour = 0; hour < 8; hour++) {
            x.setSpring(hour, by);
        }
    }

    /**
     * A canal without a spring, in the hour 2, whose bank has 40 coins: two barges paid 20 each in the
     * lock 4 and have come. The waters are 60, 60, 60, 60, 84, 36; no chamber is full; the fee is 1.
     */
    static LockBank withFortyCoins() {
        LockBank x = withSpring(0);
        x.setFee(20);
        x.barge(5, 4, 20);
        x.barge(5, 4, 20);
        x.pass(2);
        x.setFee(1);
        return x;
    }

    /**
     * A canal without a spring, a mill and barges, with any waters (of the pounds 0 to 5, in this order)
     * and the chambers of these locks full. The hour is 72, so 0 in the table of the spring. All pounds
     * were at the brim, and a mill drew them down from the top: the bank has 2 coins for each 10 it drew.
     */
    static LockBank withWaters(int[] waters, int... full) {
        LockBank x = withSpring(30);
        for (int lock : full) {
            x.work(lock);
        }
        x.pass(12);
        setAllHours(x, 0);
        for (int pound = 5; pound >= 0; pound--) {
            x.setMill(pound, waters[pound]);
            x.pass(10);
        }
        x.setMill(-1, 50);
        return x;
    }

    /** As withWaters, with the same water in all pounds but one. */
    static LockBank withOneAt(int pound, int water, int others, int... full) {
        int[] waters = {others, others, others, others, others, others};
        waters[pound] = water;
        return withWaters(waters, full);
    }
}
