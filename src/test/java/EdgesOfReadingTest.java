import java.util.NoSuchElementException;
import java.util.function.Supplier;

/** Promises 17 to 21: each sentence that names an edge of what can be read, from both sides. */
public final class EdgesOfReadingTest {
    private static final Class<IllegalArgumentException> ARGUMENT = IllegalArgumentException.class;
    private static final Class<NoSuchElementException> ELEMENT = NoSuchElementException.class;

    private EdgesOfReadingTest() {
    }

    public static void main(String[] args) {
        countOfNoStation();
        countFromNoneToSixteen();
        entryOfNoStation();
        entryOfEveryPlace();
        aboutOfNoStation();
        aboutWhat();
        aboutNone();
        allowedOfAMask();
        allowedOfNone();
        allowedOfStoppedOnes();
        allowedOfLockedOnes();
        allowedOfOnesInDoubt();
        allowedByHoldersAlone();
        allowedWhateverElse();
        inForceOfNoStation();
        inForceOnItsDays();
        inForceInItsArea();
        inForceUntilWithdrawn();
        inForceOfExtremeNotices();
        inForceOfAWholeBook();
        Check.end();
    }

    private static int write(NoticeStations x, int station) {
        return x.write(station, 0, 0, 99);
    }

    private static void countOfNoStation() {
        Edge.noStation("count", () -> States.entries(2), (x, s) -> x.count(s));
    }

    /** "at most 16 entries" */
    private static void countFromNoneToSixteen() {
        for (int many : new int[] {0, 1, 2, 15, 16}) {
            Edge.idle("count", many, () -> States.entries(many), x -> x.count(0));
            Edge.idle("count, stopped", many, States.stopped(0, () -> States.entries(many)), x -> x.count(0));
            Edge.idle("count of one that took no part", 0, () -> States.entries(many), x -> x.count(4));
        }
        // what it is prepared for is not yet in its book, nor what an open write would put there
        Edge.idle("count, in doubt", 0, States::allDoubting, x -> x.count(1));
        Edge.idle("count, preparing", 0, States::allDoubting, x -> x.count(0));
    }

    private static void entryOfNoStation() {
        for (boolean number : new boolean[] {false, true}) {
            Edge.noStation("entry", () -> States.entries(2), (x, s) -> x.entry(s, 0, number));
            Edge.noStation("entry, no place either", () -> States.entries(2), (x, s) -> x.entry(s, 2, number));
            Edge.noStation("entry, no place either", () -> States.entries(2), (x, s) -> x.entry(s, -1, number));
        }
    }

    /** "NoSuchElementException when there is none" */
    private static void entryOfEveryPlace() {
        for (int many : new int[] {0, 1, 2, 15, 16}) {
            Supplier<Coast> state = () -> States.entries(many);
            Coast c = state.get();
            for (int k = 0; k < many; k++) {
                Check.due("entry " + k, c.x.entry(0, k, false), 39600);
                Check.due("its number", c.x.entry(0, k, true), 5 + 5 * k);
            }
            for (int k : new int[] {-1, many, many + 1, 16, 17, Integer.MIN_VALUE, Integer.MAX_VALUE}) {
                Edge.refused("entry " + k + " of " + many, ELEMENT, state, x -> x.entry(0, k, false));
                Edge.refused("number " + k + " of " + many, ELEMENT, state, x -> x.entry(0, k, true));
            }
        }
        Edge.idle("the last of a shorter book", 10, () -> States.entries(3), x -> x.entry(1, 1, true));
        Edge.refused("behind the shorter book", ELEMENT, () -> States.entries(3), x -> x.entry(1, 2, true));
        Edge.refused("entry of an empty book", ELEMENT, () -> States.entries(3), x -> x.entry(4, 0, false));
        Edge.idle("entry, stopped", 39600, States.stopped(0, () -> States.entries(1)), x -> x.entry(0, 0, false));
    }

    private static void aboutOfNoStation() {
        Edge.noStation("about", States::doubting, (x, s) -> x.about(s, 0));
        Edge.noStation("about, what is wrong too", States::doubting, (x, s) -> x.about(s, 7));
        Edge.noStation("about, what is wrong too", States::doubting, (x, s) -> x.about(s, -1));
    }

    /** "IllegalArgumentException when what is none of these" */
    private static void aboutWhat() {
        int[][] want = {{5, 0, 1, -1, 5, 5, 1}, {5, 0, 0, 5, -1, -1, 1}, {5, 0, 0, -1, 5, -1, 1},
            {5, 0, 0, -1, -1, -1, 1}, {5, 0, 0, -1, -1, -1, 0}};
        Supplier<Coast> state = States.stopped(4, States::doubting);
        for (int s = 0; s < 5; s++) {
            int station = s;
            for (int what = 0; what < 7; what++) {
                int asked = what;
                Edge.idle("about " + what, want[s][what], state, x -> x.about(station, asked));
            }
            for (int what : new int[] {-1, 7, 8, Integer.MIN_VALUE, Integer.MAX_VALUE}) {
                Edge.refused("about " + what, ARGUMENT, state, x -> x.about(station, what));
            }
        }
        Supplier<Coast> written = () -> {
            Coast c = new Coast();
            c.written(4, 2, 3);
            return c;
        };
        Edge.idle("about 0, after a write", 3, written, x -> x.about(3, 0));
        Edge.idle("about 1, after a write", 2, written, x -> x.about(3, 1));
        Edge.idle("about 2, the writer", 1, written, x -> x.about(4, 2));
        Edge.idle("about 2, another one", 0, written, x -> x.about(3, 2));
        Edge.idle("about 2, three writes", 3, () -> States.entries(3), x -> x.about(0, 2));
    }

    /** "each NONE for none" */
    private static void aboutNone() {
        for (int what = 3; what <= 5; what++) {
            int asked = what;
            Edge.idle("about " + what + ", new", NoticeStations.NONE, States::fresh, x -> x.about(0, asked));
            Edge.idle("about " + what + ", committed", NoticeStations.NONE, States::committed, x -> x.about(0, asked));
            Edge.idle("about " + what + ", stored", NoticeStations.NONE,
                    States.then(States::committed, x -> x.deliver(2)), x -> x.about(1, asked));
        }
        Edge.idle("no doubt of a writer", NoticeStations.NONE, States::preparing, x -> x.about(0, 3));
        Edge.idle("no lock in doubt", NoticeStations.NONE, States::doubting, x -> x.about(1, 4));
        Edge.idle("no open write of its own", NoticeStations.NONE, States::collecting, x -> x.about(1, 5));
        Edge.idle("stopped, no lock", NoticeStations.NONE, States.stopped(1, States::collecting), x -> x.about(1, 4));
        Edge.idle("stopped, no open write", NoticeStations.NONE, States.stopped(0, States::collecting),
                x -> x.about(0, 5));
        Edge.idle("stopped, its doubt stays", 5, States.stopped(1, States::doubting), x -> x.about(1, 3));
    }

    /** "IllegalArgumentException when mask is not 0 .. 31" */
    private static void allowedOfAMask() {
        for (int mask : new int[] {-1, 32, 33, 63, 64, Integer.MIN_VALUE, Integer.MAX_VALUE}) {
            Edge.refused("allowed " + mask, ARGUMENT, States::doubting, x -> x.allowed(mask));
            Edge.refused("allowed " + mask, ARGUMENT, States::fresh, x -> x.allowed(mask));
        }
        Edge.idle("allowed, all", true, States::fresh, x -> x.allowed(31));
    }

    /** "False for none." */
    private static void allowedOfNone() {
        Edge.idle("allowed, none", false, States::fresh, x -> x.allowed(0));
        Edge.idle("allowed, none of one", false, () -> States.entries(3), x -> x.allowed(0));
    }

    /** "all are up" */
    private static void allowedOfStoppedOnes() {
        for (int s = 0; s < 5; s++) {
            Supplier<Coast> stopped = States.stopped(s, States::fresh);
            everyMask("one is stopped", stopped, 1 << s);
            int station = s;
            everyMask("it is started", States.then(stopped, x -> x.start(station)), 0);
        }
    }

    /** With empty books: three or more, and none of those that cannot grant. */
    private static void everyMask(String when, Supplier<Coast> state, int not) {
        for (int mask = 0; mask < 32; mask++) {
            int asked = mask;
            boolean want = Integer.bitCount(mask) >= 3 && (mask & not) == 0;
            Edge.idle("allowed " + mask + ", " + when, want, state, x -> x.allowed(asked));
        }
    }

    /** "without lock": its own, or another one's */
    private static void allowedOfLockedOnes() {
        everyMask("one writes", States::writing, 0b00001);
        everyMask("one is locked too", States::collectingTwo, 0b00011);
        everyMask("it is unlocked", States.then(States::collectingTwo, x -> x.unlock(1)), 0b00001);
        everyMask("it is given up", States.then(States::writing, x -> x.giveUp(0)), 0);
    }

    /** "not in doubt" */
    private static void allowedOfOnesInDoubt() {
        Supplier<Coast> doubting = States.then(States::doubting, x -> {
            x.giveUp(0);
            x.unlock(2);
        });
        everyMask("one is in doubt", doubting, 0b00010);
        everyMask("its doubt has ended", States.then(doubting, x -> x.deliver(4)), 0);
    }

    /** "and what is said for DECIDE": after a last write of 4, 3, 2 and 1 stations */
    private static void allowedByHoldersAlone() {
        afterWriteOf(0b11110, () -> {
            Coast c = new Coast();
            c.written(3, 1, 2, 4);
            return c;
        });
        afterWriteOf(0b11100, () -> {
            Coast c = new Coast();
            c.written(3, 2, 4);
            return c;
        });
        afterWriteOf(0b00111, () -> States.entries(1));
        afterWriteOf(0b00011, () -> States.entries(2));
        afterWriteOf(0b11000, () -> {
            Coast c = new Coast();
            c.written(3, 2, 4);
            c.written(4, 3);
            return c;
        });
        afterWriteOf(0b00001, () -> States.entries(3));
    }

    private static void afterWriteOf(int last, Supplier<Coast> state) {
        int size = Integer.bitCount(last);
        for (int mask = 0; mask < 32; mask++) {
            int asked = mask;
            int holders = Integer.bitCount(mask & last);
            boolean named = (mask & last & -last) != 0;
            boolean want = 2 * holders > size || 2 * holders == size && named;
            Edge.idle("allowed " + mask + " after " + last, want, state, x -> x.allowed(asked));
        }
    }

    /** nothing is said of cables, of room in the row, or of a full book */
    private static void allowedWhateverElse() {
        everyMask("one is apart", States.apart(1, States::fresh), 0);
        everyMask("the row is full", States.row(40, States::writing), 0b00001);
        Edge.idle("allowed, a full book", true, () -> States.entries(16), x -> x.allowed(1));
        Edge.idle("allowed, without it", false, () -> States.entries(16), x -> x.allowed(0b11110));
    }

    private static void inForceOfNoStation() {
        Edge.noStation("inForce", () -> States.entries(2), (x, s) -> x.inForce(s, 0, 0));
        Edge.noStation("inForce, no area, no day", () -> States.entries(2), (x, s) -> x.inForce(s, 4, -1));
    }

    /** One notice behind three of area 0, in the book of station 0. */
    private static Supplier<Coast> notice(int area, int from, int to) {
        return States.then(() -> States.entries(3), x -> {
            x.write(0, area, from, to);
            x.decide(0);
        });
    }

    /** "if from <= day <= to" */
    private static void inForceOnItsDays() {
        int[][] days = {{0, 0}, {0, 99}, {99, 99}, {10, 20}, {15, 15}, {20, 19}, {99, 0}};
        for (int[] d : days) {
            Coast c = notice(1, d[0], d[1]).get();
            for (int day = -2; day <= 101; day++) {
                int want = d[0] <= day && day <= d[1] ? 1 : 0;
                Check.due("inForce on " + day + " of " + d[0] + " to " + d[1], c.x.inForce(0, 1, day), want);
            }
            Check.due("inForce on the least day", c.x.inForce(0, 1, Integer.MIN_VALUE), 0);
            Check.due("inForce on the greatest day", c.x.inForce(0, 1, Integer.MAX_VALUE), 0);
        }
        Edge.idle("inForce changes nothing", 1, notice(1, 10, 20), x -> x.inForce(0, 1, 20));
    }

    /** "notices of an area": of no other one, and none of an area that is not */
    private static void inForceInItsArea() {
        for (int area = 0; area < 4; area++) {
            Coast c = notice(area, 0, 99).get();
            for (int other : new int[] {-4, -1, 0, 1, 2, 3, 4, 5, 8, Integer.MIN_VALUE, Integer.MAX_VALUE}) {
                int want = (other == 0 ? 3 : 0) + (other == area ? 1 : 0);
                Check.due("inForce of area " + other, c.x.inForce(0, other, 50), want);
            }
        }
    }

    /** "and no withdrawal of its place is in the book": in that one */
    private static void inForceUntilWithdrawn() {
        Supplier<Coast> two = () -> States.entries(2);
        Supplier<Coast> open = States.then(two, x -> x.withdraw(0, 1));
        Edge.idle("inForce, open", 2, open, x -> x.inForce(0, 0, 50));
        Supplier<Coast> withdrawn = States.then(open, x -> x.decide(0));
        Edge.idle("inForce, withdrawn", 1, withdrawn, x -> x.inForce(0, 0, 50));
        Edge.idle("inForce, the withdrawal elsewhere", 2, withdrawn, x -> x.inForce(1, 0, 50));
        Edge.idle("inForce, an older book", 1, withdrawn, x -> x.inForce(2, 0, 50));
        Edge.idle("inForce, an empty book", 0, withdrawn, x -> x.inForce(4, 0, 50));
        Edge.idle("inForce, stopped", 1, States.stopped(0, withdrawn), x -> x.inForce(0, 0, 50));
        Supplier<Coast> both = States.then(withdrawn, x -> {
            x.withdraw(0, 0);
            x.decide(0);
        });
        Edge.idle("inForce, both withdrawn", 0, both, x -> x.inForce(0, 0, 50));
    }

    /** the least notice, of area 0 from day 0 to day 0, is the entry 0, and the greatest 39999 */
    private static void inForceOfExtremeNotices() {
        Edge.idle("inForce, the least notice", 4, notice(0, 0, 0), x -> x.inForce(0, 0, 0));
        Edge.idle("inForce, the day behind", 3, notice(0, 0, 0), x -> x.inForce(0, 0, 1));
        Edge.idle("inForce, the greatest notice", 1, notice(3, 99, 99), x -> x.inForce(0, 3, 99));
        Edge.idle("inForce, the day before", 0, notice(3, 99, 99), x -> x.inForce(0, 3, 98));
    }

    private static void inForceOfAWholeBook() {
        Edge.idle("inForce, 16 notices", 16, () -> States.entries(16), x -> x.inForce(0, 0, 0));
        Supplier<Coast> last = States.then(() -> States.entries(15), x -> {
            write(x, 0);
            x.decide(0);
        });
        Edge.idle("inForce, the last place", 16, last, x -> x.inForce(0, 0, 99));
    }
}
