import java.util.NoSuchElementException;

/** Promises 17 to 21: what can be read of a station, and who could write. */
public final class ReadingTest {
    private ReadingTest() {
    }

    public static void main(String[] args) {
        count();
        entry();
        about();
        allowed();
        allowedOnlyFreeStations();
        inForce();
        withdrawnNotices();
        Check.end();
    }

    private static void count() {
        Coast c = new Coast();
        Check.dueThrow("count(-1)", IndexOutOfBoundsException.class, () -> c.x.count(-1));
        Check.dueThrow("count(5)", IndexOutOfBoundsException.class, () -> c.x.count(5));
        c.written(0, 1, 2);
        c.withdrawn(0, 0, 1);
        int[] want = {2, 2, 1, 0, 0};
        c.x.stop(1);
        for (int s = 0; s < 5; s++) {
            Check.due("count(" + s + ")", c.x.count(s), want[s]);
        }
    }

    private static void entry() {
        Coast c = new Coast();
        c.noticed(2, 3, 4, 0, 1, 2);
        c.withdrawn(0, 1, 0);
        Check.due("entry(0, 0, false)", c.x.entry(0, 0, false), 2 + 12 + 1600);
        Check.due("entry(0, 0, true)", c.x.entry(0, 0, true), 5);
        Check.due("entry(0, 1, false)", c.x.entry(0, 1, false), -1);
        Check.due("entry(0, 1, true)", c.x.entry(0, 1, true), 6);
        for (int k : new int[] {-1, 2, 15, 16, Integer.MIN_VALUE, Integer.MAX_VALUE}) {
            Check.dueThrow("entry(0, " + k + ")", NoSuchElementException.class, () -> c.x.entry(0, k, false));
            Check.dueThrow("entry(0, " + k + ")", NoSuchElementException.class, () -> c.x.entry(0, k, true));
        }
        Check.dueThrow("entry(2, 1)", NoSuchElementException.class, () -> c.x.entry(2, 1, true));
        Check.dueThrow("entry(4, 0)", NoSuchElementException.class, () -> c.x.entry(4, 0, false));
        Check.dueThrow("entry(5, 0)", IndexOutOfBoundsException.class, () -> c.x.entry(5, 0, false));
        Check.dueThrow("entry(-1, -1)", IndexOutOfBoundsException.class, () -> c.x.entry(-1, -1, false));
    }

    private static void about() {
        Coast c = new Coast();
        c.collect(3, 4, 2);
        c.x.decide(3);
        c.pass(Coast.PREPARE, 3, 2);
        c.x.stop(1);
        c.dueStation(3, "5 0 1 -1 8 8 1");
        c.dueStation(2, "5 0 0 8 -1 -1 1");
        c.dueStation(4, "5 0 0 -1 8 -1 1");
        c.dueStation(1, "5 0 0 -1 -1 -1 0");
        c.pass(Coast.PREPARE, 3, 4);
        c.pass(Coast.PREPARED, 4, 3);
        c.pass(Coast.PREPARED, 2, 3);
        c.pass(Coast.COMMIT, 3, 4);
        c.dueStation(4, "3 2 0 -1 -1 -1 1 39600#8");
        for (int what : new int[] {-1, 7, Integer.MIN_VALUE, Integer.MAX_VALUE}) {
            Check.dueThrow("about(0, " + what + ")", IllegalArgumentException.class, () -> c.x.about(0, what));
            Check.dueThrow("about(5, " + what + ")", IndexOutOfBoundsException.class, () -> c.x.about(5, what));
        }
        Check.dueThrow("about(-1, 0)", IndexOutOfBoundsException.class, () -> c.x.about(-1, 0));
    }

    private static void allowed() {
        Coast c = new Coast();
        for (int mask = 0; mask < 32; mask++) {
            Check.due("allowed(" + mask + ")", c.x.allowed(mask), Integer.bitCount(mask) >= 3);
        }
        for (int mask : new int[] {-1, 32, 33, Integer.MIN_VALUE, Integer.MAX_VALUE}) {
            Check.dueThrow("allowed(" + mask + ")", IllegalArgumentException.class, () -> c.x.allowed(mask));
        }
        c.written(1, 2, 3, 4);
        for (int mask = 0; mask < 32; mask++) {
            int holders = Integer.bitCount(mask & 0b11110);
            boolean want = holders > 2 || holders == 2 && (mask & 0b00010) != 0;
            Check.due("allowed(" + mask + ") of four", c.x.allowed(mask), want);
        }
        // nothing is said of cables
        for (int s = 0; s < 4; s++) {
            c.x.cable(s, 4, false);
        }
        Check.due("allowed in two pieces", c.x.allowed(0b11100), true);
        c.written(2, 1, 3);
        c.written(3, 1);
        for (int mask = 0; mask < 32; mask++) {
            Check.due("allowed(" + mask + ") of two", c.x.allowed(mask), (mask & 0b00010) != 0);
        }
    }

    private static void allowedOnlyFreeStations() {
        Coast c = new Coast();
        c.x.stop(4);
        Check.due("one is stopped", c.x.allowed(0b11111), false);
        Check.due("the others", c.x.allowed(0b01111), true);
        c.x.write(0, 0, 0, 0);
        Check.due("one writes", c.x.allowed(0b01111), false);
        Check.due("the others", c.x.allowed(0b01110), true);
        c.pass(Coast.LOCK, 0, 1);
        Check.due("one is locked", c.x.allowed(0b01110), false);
        c.x.unlock(1);
        Check.due("it is not any more", c.x.allowed(0b01110), true);
        c.x.giveUp(0);
        c.loseAll();
        c.collect(0, 1, 2);
        c.x.decide(0);
        c.pass(Coast.PREPARE, 0, 1);
        c.x.giveUp(0);
        c.x.unlock(2);
        Check.due("one is in doubt", c.x.allowed(0b01111), false);
        Check.due("the others", c.x.allowed(0b01101), true);
    }

    private static void inForce() {
        Coast c = new Coast();
        c.noticed(1, 10, 20, 0, 1, 2);
        c.noticed(1, 15, 15, 0, 1, 2);
        c.noticed(3, 0, 99, 0, 1, 2);
        c.noticed(0, 20, 10, 0, 1, 2);
        int[][] want = {{9, 0}, {10, 1}, {14, 1}, {15, 2}, {16, 1}, {20, 1}, {21, 0}};
        for (int[] w : want) {
            Check.due("inForce(2, 1, " + w[0] + ")", c.x.inForce(2, 1, w[0]), w[1]);
        }
        int[][] whole = {{-1, 0}, {0, 1}, {99, 1}, {100, 0}, {Integer.MIN_VALUE, 0}, {Integer.MAX_VALUE, 0}};
        for (int[] w : whole) {
            Check.due("inForce(2, 3, " + w[0] + ")", c.x.inForce(2, 3, w[0]), w[1]);
        }
        for (int day : new int[] {9, 10, 15, 20, 21}) {
            Check.due("inForce, from behind to", c.x.inForce(0, 0, day), 0);
            Check.due("inForce, no notice of it", c.x.inForce(0, 2, day), 0);
            Check.due("inForce, an empty book", c.x.inForce(4, 1, day), 0);
        }
        for (int area : new int[] {-1, 4, 5, Integer.MIN_VALUE, Integer.MAX_VALUE}) {
            Check.due("inForce, no such area", c.x.inForce(0, area, 15), 0);
        }
        Check.dueThrow("inForce(5, ..)", IndexOutOfBoundsException.class, () -> c.x.inForce(5, 0, 0));
        Check.dueThrow("inForce(-1, ..)", IndexOutOfBoundsException.class, () -> c.x.inForce(-1, 9, -9));
    }

    private static void withdrawnNotices() {
        Coast c = new Coast();
        c.noticed(0, 0, 0, 0, 1, 2);
        c.noticed(0, 0, 9, 0, 1, 2);
        Check.due("inForce(0, 0, 0)", c.x.inForce(0, 0, 0), 2);
        c.withdrawn(1, 0, 1);
        Check.due("inForce(0, 0, 0)", c.x.inForce(0, 0, 0), 1);
        Check.due("inForce(0, 0, 5)", c.x.inForce(0, 0, 5), 0);
        Check.due("where the withdrawal is not", c.x.inForce(2, 0, 0), 2);
        c.x.stop(0);
        Check.due("stopped", c.x.inForce(0, 0, 0), 1);
        // a station with the older book may withdraw the same notice once more
        c.x.start(0);
        c.x.withdraw(2, 1);
        c.grant(2, 0, 1);
        c.finish(2, 0, 1);
        c.dueStation(2, "3 0 1 -1 -1 -1 1 0#5 3600#10 -2#15 -2#7");
        Check.due("inForce(2, 0, 0)", c.x.inForce(2, 0, 0), 1);
    }
}
