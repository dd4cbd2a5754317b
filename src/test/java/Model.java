import java.util.ArrayList;
import java.util.List;

/**
 * The document told once more, word for word and with no thought of room or speed, for ModelTest.
 * It looks ahead on a copy that it makes by doing all its calls again, so it can't share a slip with
 * a copy made field by field.
 */
final class Model {
    private static final class Pound {
        int water = 60;
        int ranOver = 0;
        int drawn = 0;
    }

    private static final class Lock {
        boolean full = false;
        int served = 0;
        int filled = 0;
    }

    private static final class Barge {
        int number;
        int pound;
        int goal;
        int coins;
        int served = 0;
        boolean servedInThisHour = false;

        /** The lock at which it waits, or -1. */
        int lock() {
            if (pound > goal) {
                return pound - 1;
            }
            return pound < goal ? pound : -1;
        }
    }

    private final List<int[]> journal = new ArrayList<>();
    private final int[] spring = {8, 8, 8, 8, 8, 8, 8, 8};
    private final List<Pound> pounds = new ArrayList<>();
    private final List<Lock> locks = new ArrayList<>();
    private final List<Barge> barges = new ArrayList<>();
    private int hour = 0;
    private int coins = 0;
    private int fee = 1;
    private int millPound = -1;
    private int mark = 50;
    private boolean drought = false;
    private int away = 0;

    Model() {
        for (int p = 0; p < 6; p++) {
            pounds.add(new Pound());
        }
        for (int k = 0; k < 5; k++) {
            locks.add(new Lock());
        }
    }

    private Model copy() {
        Model m = new Model();
        for (int[] call : journal) {
            m.call(call);
        }
        return m;
    }

    /** A call by its place in the face, 0 setSpring, and its arguments; a boolean as 1 or 0. */
    long call(int[] c) {
        long answer;
        switch (c[0]) {
            case 0: answer = setSpring(c[1], c[2]); break;
            case 1: answer = setMill(c[1], c[2]); break;
            case 2: answer = setDrought(c[1] == 1); break;
            case 3: answer = setFee(c[1]); break;
            case 4: answer = water(c[1], c[2]); break;
            case 5: answer = work(c[1]); break;
            case 6: answer = barge(c[1], c[2], c[3]); break;
            case 7: answer = send(c[1], c[2]); break;
            case 8: return told(c[1], c[2]);
            case 9: return pound(c[1], c[2]);
            case 10: return lock(c[1], c[2]);
            case 11: return count(c[1]);
            case 12: answer = pass(c[1]); break;
            case 13: return arrives(c[1]);
            case 14: return foresee(c[1], c[2]);
            case 15: return advise(c[1]);
            case 16: return stops();
            case 17: return Double.doubleToLongBits(count(4) / 6.0);
            default: return digest();
        }
        journal.add(c.clone());
        return answer;
    }

    private static void index(boolean good) {
        if (!good) {
            throw new IndexOutOfBoundsException();
        }
    }

    private static void argument(boolean good) {
        if (!good) {
            throw new IllegalArgumentException();
        }
    }

    private static void state(boolean good) {
        if (!good) {
            throw new IllegalStateException();
        }
    }

    private int setSpring(int at, int by) {
        index(at >= 0 && at <= 7);
        argument(by >= 0 && by <= 30);
        int before = spring[at];
        spring[at] = by;
        return before;
    }

    private int setMill(int pound, int newMark) {
        index(pound >= -1 && pound <= 5);
        argument(newMark >= 0 && newMark <= 100);
        int before = mark;
        millPound = pound;
        mark = newMark;
        return before;
    }

    private int setDrought(boolean is) {
        int before = drought ? 1 : 0;
        drought = is;
        return before;
    }

    private int setFee(int newFee) {
        argument(newFee >= 0 && newFee <= 20);
        int before = fee;
        fee = newFee;
        return before;
    }

    private int water(int pound, int water) {
        index(pound >= 0 && pound <= 5);
        argument(water >= 1 && water <= 60);
        int price = water / 2 + water % 2;
        state(coins >= price);
        coins -= price;
        pounds.get(pound).water += water;
        runOver();
        return coins;
    }

    private int work(int lock) {
        index(lock >= 0 && lock <= 4);
        if (locks.get(lock).full) {
            empty(lock);
            return 0;
        }
        state(fillingCanBeHad(lock));
        fill(lock);
        return 1;
    }

    private int barge(int from, int to, int hasCoins) {
        index(from >= 0 && from <= 5 && to >= 0 && to <= 5);
        argument(hasCoins >= 0 && hasCoins <= 99);
        state(barges.size() < 10);
        Barge b = new Barge();
        b.number = barges.size();
        b.pound = from;
        b.goal = to;
        b.coins = hasCoins;
        barges.add(b);
        return b.number;
    }

    private int send(int barge, int to) {
        index(barge >= 0 && barge < barges.size() && to >= 0 && to <= 5);
        int before = barges.get(barge).goal;
        barges.get(barge).goal = to;
        return before;
    }

    private int told(int barge, int what) {
        index(barge >= 0 && barge < barges.size() && what >= 0 && what <= 4);
        Barge b = barges.get(barge);
        return new int[] {b.pound, b.goal, b.coins, b.served, b.lock()}[what];
    }

    private int pound(int pound, int what) {
        index(pound >= 0 && pound <= 5 && what >= 0 && what <= 3);
        Pound p = pounds.get(pound);
        int there = (int) barges.stream().filter(b -> b.pound == pound).count();
        return new int[] {p.water, there, p.ranOver, p.drawn}[what];
    }

    private int lock(int lock, int what) {
        index(lock >= 0 && lock <= 4 && what >= 0 && what <= 4);
        Lock l = locks.get(lock);
        int waiting = (int) barges.stream().filter(b -> b.lock() == lock).count();
        Barge next = next(lock);
        return new int[] {l.full ? 1 : 0, waiting, l.served, l.filled, next == null ? -1 : next.number}[what];
    }

    private int count(int what) {
        index(what >= 0 && what <= 9);
        int come = (int) barges.stream().filter(b -> b.pound == b.goal).count();
        int water = pounds.stream().mapToInt(p -> p.water).sum();
        int full = (int) locks.stream().filter(l -> l.full).count();
        return new int[] {hour, barges.size(), come, coins, water, full, away, fee, mark, millPound}[what];
    }

    private int pass(int hours) {
        argument(hours >= 1 && hours <= 60);
        int served = 0;
        for (int i = 0; i < hours; i++) {
            served += anHour();
        }
        return served;
    }

    private int arrives(int barge) {
        index(barge >= 0 && barge < barges.size());
        Model m = copy();
        for (int hours = 0; hours <= 120; hours++) {
            Barge b = m.barges.get(barge);
            if (b.pound == b.goal) {
                return hours;
            }
            m.anHour();
        }
        return -1;
    }

    private int foresee(int hours, int what) {
        argument(hours >= 1 && hours <= 60);
        index(what >= 2 && what <= 6);
        Model m = copy();
        m.pass(hours);
        return m.count(what);
    }

    private int advise(int hours) {
        argument(hours >= 1 && hours <= 40);
        int best = -1;
        int most = -1;
        for (int i = 10; i >= 0; i--) {
            Model m = copy();
            m.mark = i * 10;
            m.pass(hours);
            if (m.coins > most) {
                most = m.coins;
                best = i * 10;
            }
        }
        return best;
    }

    private int stops() {
        Model m = copy();
        for (int hours = 0; hours < 60; hours++) {
            if (m.anHour() == 0) {
                return hours;
            }
        }
        return -1;
    }

    private long digest() {
        List<Integer> numbers = new ArrayList<>();
        for (int what = 0; what <= 9; what++) {
            numbers.add(count(what));
        }
        numbers.add(drought ? 1 : 0);
        for (int by : spring) {
            numbers.add(by);
        }
        for (int p = 0; p < 6; p++) {
            for (int what = 0; what <= 3; what++) {
                numbers.add(pound(p, what));
            }
        }
        for (int k = 0; k < 5; k++) {
            for (int what = 0; what <= 4; what++) {
                numbers.add(lock(k, what));
            }
        }
        for (int b = 0; b < barges.size(); b++) {
            for (int what = 0; what <= 4; what++) {
                numbers.add(told(b, what));
            }
        }
        long d = 1453;
        for (int x : numbers) {
            d = d * 31 + x;
        }
        return d;
    }

    private int anHour() {
        pounds.get(5).water += spring[hour % 8];
        runOver();
        if (millPound != -1 && pounds.get(millPound).water > mark) {
            int draw = Math.min(10, pounds.get(millPound).water - mark);
            pounds.get(millPound).water -= draw;
            pounds.get(millPound).drawn += draw;
            coins += draw / 5;
            if (millPound == 0) {
                away += draw;
            } else {
                pounds.get(millPound - 1).water += draw;
            }
            runOver();
        }
        int servings = 0;
        for (int k = 4; k >= 0; k--) {
            Barge b = next(k);
            if (b != null) {
                lockThrough(k, b);
                servings++;
            }
        }
        for (Barge b : barges) {
            b.servedInThisHour = false;
        }
        hour++;
        return servings;
    }

    private void runOver() {
        for (int p = 5; p >= 0; p--) {
            Pound pound = pounds.get(p);
            int over = Math.max(0, pound.water - 100);
            pound.water -= over;
            pound.ranOver += over;
            if (p == 0) {
                away += over;
            } else {
                pounds.get(p - 1).water += over;
            }
        }
    }

    private boolean fillingCanBeHad(int k) {
        return pounds.get(k + 1).water - 20 >= 12;
    }

    private void fill(int k) {
        locks.get(k).full = true;
        locks.get(k).filled += 12;
        pounds.get(k + 1).water -= 12;
    }

    private void empty(int k) {
        locks.get(k).full = false;
        pounds.get(k).water += 12;
        runOver();
    }

    private static boolean fits(Lock lock, Barge b) {
        boolean down = b.goal < b.pound;
        return down && lock.full || !down && !lock.full;
    }

    private Barge next(int k) {
        Lock lock = locks.get(k);
        List<Barge> can = new ArrayList<>();
        for (Barge b : barges) {
            if (b.lock() != k || b.servedInThisHour || b.coins < fee) {
                continue;
            }
            boolean down = b.goal < b.pound;
            if (down && !lock.full && !fillingCanBeHad(k)) {
                continue;
            }
            if (!down && !fillingCanBeHad(k)) {
                continue;
            }
            if (drought && !fits(lock, b)) {
                continue;
            }
            can.add(b);
        }
        for (Barge b : can) {
            if (fits(lock, b)) {
                return b;
            }
        }
        return can.isEmpty() ? null : can.get(0);
    }

    private void lockThrough(int k, Barge b) {
        Lock lock = locks.get(k);
        if (b.goal < b.pound) {
            if (!lock.full) {
                fill(k);
            }
            empty(k);
            b.pound--;
        } else {
            if (lock.full) {
                empty(k);
            }
            fill(k);
            b.pound++;
        }
        b.coins -= fee;
        coins += fee;
        b.served++;
        b.servedInThisHour = true;
        lock.served++;
    }
}
