import java.util.NoSuchElementException;
import java.util.function.Supplier;

/** Promises 1, 3 and 4: each sentence that names an edge of a new object, of write and of withdraw, from both sides. */
public final class EdgesOfWritingTest {
    private static final Class<IndexOutOfBoundsException> NO_SUCH = IndexOutOfBoundsException.class;
    private static final Class<IllegalArgumentException> ARGUMENT = IllegalArgumentException.class;
    private static final Class<IllegalStateException> STATE = IllegalStateException.class;
    private static final Class<UnsupportedOperationException> ROOM = UnsupportedOperationException.class;
    private static final Class<NoSuchElementException> ELEMENT = NoSuchElementException.class;

    private EdgesOfWritingTest() {
    }

    public static void main(String[] args) {
        newBooksAreEmpty();
        newCablesAreThere();
        newRowIsEmpty();
        writeOfNoStation();
        writeOfTheFirstAndLastStation();
        writeOfAnArea();
        writeOfDays();
        writeOfExtremeNotices();
        writeWithArgumentsFirst();
        writeWhenStopped();
        writeWithALock();
        writeInDoubt();
        writeWithStateBeforeRoom();
        writeWithRoomForFour();
        writeOfTheSixteenth();
        writeCountsOnlyWhatBegan();
        withdrawOfNoStation();
        withdrawOfAPlace();
        withdrawOfTheLeastNotice();
        withdrawOfAWithdrawal();
        withdrawOfAWithdrawnOne();
        withdrawOfTheLastPlace();
        withdrawWithPlaceFirst();
        withdrawWhenStoppedLockedOrInDoubt();
        withdrawWithStateBeforeRoom();
        withdrawWithRoomForFour();
        withdrawAsTheSixteenth();
        Check.end();
    }

    private static int write(NoticeStations x, int station) {
        return x.write(station, 0, 0, 99);
    }

    /** "Empty books" */
    private static void newBooksAreEmpty() {
        for (int s = 0; s < 5; s++) {
            int station = s;
            Edge.idle("count, new", 0, States::fresh, x -> x.count(station));
            Edge.refused("entry 0, new", ELEMENT, States::fresh, x -> x.entry(station, 0, false));
            Edge.refused("withdraw 0, new", ELEMENT, States::fresh, x -> x.withdraw(station, 0));
            Edge.idle("inForce, new", 0, States::fresh, x -> x.inForce(station, 0, 0));
        }
    }

    /** "all cables" */
    private static void newCablesAreThere() {
        for (int s = 0; s < 5; s++) {
            for (int t = 0; t < 5; t++) {
                int a = s;
                int b = t;
                if (a != b) {
                    Edge.idle("cable is there, new", false, States::fresh, x -> x.cable(a, b, true));
                    Edge.taken("cable tears, new", true, States::fresh, x -> x.cable(a, b, false));
                }
            }
        }
    }

    /** "no letters" */
    private static void newRowIsEmpty() {
        Edge.idle("letters, new", 0, States::fresh, x -> x.letters());
        Edge.refused("letter, new", NO_SUCH, States::fresh, x -> x.letter(0, 0));
        Edge.refused("deliver, new", NO_SUCH, States::fresh, x -> x.deliver(0));
        Edge.refused("lose, new", NO_SUCH, States::fresh, x -> x.lose(0));
        Edge.refused("twin, new", NO_SUCH, States::fresh, x -> x.twin(0));
    }

    private static void writeOfNoStation() {
        Edge.noStation("write", States::fresh, (x, s) -> x.write(s, 0, 0, 0));
        Edge.noStation("write, argument wrong", States::fresh, (x, s) -> x.write(s, 4, 100, -1));
        Edge.noStation("write, no room", States.row(40, States::writing), (x, s) -> x.write(s, 4, 0, 0));
    }

    private static void writeOfTheFirstAndLastStation() {
        for (int s = 0; s < 5; s++) {
            int station = s;
            Coast c = Edge.taken("the first write", 5 + s, States::fresh, x -> write(x, station));
            c.x.giveUp(s);
            c.loseAll();
            Check.due("the second write", write(c.x, s), 10 + s);
            StringBuilder row = new StringBuilder();
            for (int t = 0; t < 5; t++) {
                row.append(t == s ? "" : " 0:" + s + ">" + t + "#" + (10 + s));
            }
            c.dueRow(row.substring(1));
            c.dueStation(s, "5 0 2 -1 " + (10 + s) + " " + (10 + s) + " 1");
        }
    }

    /** "IllegalArgumentException when area, .. is not as said": 0 .. 3 */
    private static void writeOfAnArea() {
        for (int area = 0; area < 4; area++) {
            int one = area;
            Edge.taken("area " + area, 5, States::fresh, x -> x.write(0, one, 0, 0));
        }
        for (int area : new int[] {-1, 4, Integer.MIN_VALUE, Integer.MAX_VALUE}) {
            Edge.refused("area " + area, ARGUMENT, States::fresh, x -> x.write(0, area, 0, 0));
        }
    }

    /** "IllegalArgumentException when .. from or to is not as said": 0 .. 99 each, and no word of their order */
    private static void writeOfDays() {
        for (int day : new int[] {0, 1, 98, 99}) {
            Edge.taken("from " + day, 5, States::fresh, x -> x.write(0, 0, day, 50));
            Edge.taken("to " + day, 5, States::fresh, x -> x.write(0, 0, 50, day));
        }
        for (int day : new int[] {-1, 100, Integer.MIN_VALUE, Integer.MAX_VALUE}) {
            Edge.refused("from " + day, ARGUMENT, States::fresh, x -> x.write(0, 0, day, 50));
            Edge.refused("to " + day, ARGUMENT, States::fresh, x -> x.write(0, 0, 50, day));
        }
    }

    /** "area + 4 * from + 400 * to" */
    private static void writeOfExtremeNotices() {
        int[][] notices = {{0, 0, 0, 0}, {3, 0, 0, 3}, {0, 99, 0, 396}, {0, 0, 99, 39600}, {3, 99, 99, 39999}};
        for (int[] n : notices) {
            Coast c = Edge.taken("write", 20, () -> States.entries(3), x -> x.write(0, n[0], n[1], n[2]));
            c.x.decide(0);
            Check.due("the notice", c.x.entry(0, 3, false), n[3]);
            Check.due("its number", c.x.entry(0, 3, true), 20);
        }
    }

    /** "where several exceptions that a call names fit, it is the one that it names first": the argument's */
    private static void writeWithArgumentsFirst() {
        Supplier<Coast> full = () -> States.entries(16);
        int[][] wrong = {{-1, 0, 0}, {4, 0, 0}, {0, -1, 0}, {0, 100, 0}, {0, 0, -1}, {0, 0, 100}};
        for (int[] w : wrong) {
            Edge.refused("argument, stopped", ARGUMENT, States.stopped(0, States::fresh),
                    x -> x.write(0, w[0], w[1], w[2]));
            Edge.refused("argument, locked", ARGUMENT, States::collecting, x -> x.write(1, w[0], w[1], w[2]));
            Edge.refused("argument, in doubt", ARGUMENT, States::doubting, x -> x.write(1, w[0], w[1], w[2]));
            Edge.refused("argument, row full", ARGUMENT, States.row(40, States::writing),
                    x -> x.write(3, w[0], w[1], w[2]));
            Edge.refused("argument, book full", ARGUMENT, full, x -> x.write(0, w[0], w[1], w[2]));
        }
    }

    /** "IllegalStateException when the station is stopped" */
    private static void writeWhenStopped() {
        Supplier<Coast> stopped = States.stopped(3, States::fresh);
        Edge.refused("write, stopped", STATE, stopped, x -> write(x, 3));
        Edge.taken("write, started", 8, States.then(stopped, x -> x.start(3)), x -> write(x, 3));
        Edge.taken("write, another one stopped", 7, stopped, x -> write(x, 2));
        Edge.taken("write, all others apart", 8, States.apart(3, States::fresh), x -> write(x, 3));
    }

    /** "IllegalStateException when the station .. has a lock" */
    private static void writeWithALock() {
        Edge.refused("write, its own open one collects", STATE, States::collecting, x -> write(x, 0));
        Edge.refused("write, its own open one prepares", STATE, States::preparing, x -> write(x, 0));
        Edge.refused("write, locked by another", STATE, States::collecting, x -> write(x, 1));
        Edge.taken("write, unlocked", 6, States.then(States::collecting, x -> x.unlock(1)), x -> write(x, 1));
        Edge.taken("write, given up", 10, States.then(States::collecting, x -> x.giveUp(0)), x -> write(x, 0));
        Edge.taken("write, committed", 10, States::committed, x -> write(x, 0));
        Edge.taken("write, not locked yet", 8, States::collecting, x -> write(x, 3));
    }

    /** "IllegalStateException when the station .. is in doubt" */
    private static void writeInDoubt() {
        Edge.refused("write, in doubt", STATE, States::doubting, x -> write(x, 1));
        Supplier<Coast> startedAnew = States.then(States.stopped(1, States::doubting), x -> x.start(1));
        Edge.refused("write, in doubt and started anew", STATE, startedAnew, x -> write(x, 1));
        Edge.taken("write, its doubt ended", 6, States.then(States::committed, x -> x.deliver(2)), x -> write(x, 1));
        Edge.refused("write, the other's doubt lasts", STATE, States.then(States::committed, x -> x.deliver(2)),
                x -> write(x, 2));
    }

    private static void writeWithStateBeforeRoom() {
        Edge.refused("write, stopped, row full", STATE, States.stopped(3, States.row(40, States::writing)),
                x -> write(x, 3));
        Edge.refused("write, open, row full", STATE, States.row(40, States::writing), x -> write(x, 0));
        Edge.refused("write, locked, row full", STATE, States.row(40, States::collecting), x -> write(x, 1));
        Edge.refused("write, in doubt, row full", STATE, States.row(40, States::doubting), x -> write(x, 1));
        Edge.refused("write, stopped, book full", STATE, States.stopped(0, () -> States.entries(16)),
                x -> write(x, 0));
        Edge.refused("write, locked, book full", STATE, lockedWith(16), x -> write(x, 0));
    }

    /** Station 0 has so many entries and the lock of a write of station 4. */
    private static Supplier<Coast> lockedWith(int many) {
        return States.then(() -> States.entries(many), x -> {
            write(x, 4);
            x.deliver(0);
        });
    }

    /** "UnsupportedOperationException: there would be more than 40 letters" */
    private static void writeWithRoomForFour() {
        Coast c = Edge.taken("write, 36 letters", 8, States.row(36, States::writing), x -> write(x, 3));
        Check.due("letters", c.x.letters(), 40);
        for (int letters = 37; letters <= 40; letters++) {
            Edge.refused("write, " + letters + " letters", ROOM, States.row(letters, States::writing),
                    x -> write(x, 3));
        }
    }

    /** "UnsupportedOperationException also when its book has 16 entries": its own, not another one's */
    private static void writeOfTheSixteenth() {
        Coast c = Edge.taken("write, 15 entries", 80, () -> States.entries(15), x -> write(x, 0));
        Check.due("decide", c.x.decide(0), true);
        Check.due("count", c.x.count(0), 16);
        Edge.refused("write, 16 entries", ROOM, () -> States.entries(16), x -> write(x, 0));
        Edge.refused("write, 16 entries, row full too", ROOM, fullRowAndBook(), x -> write(x, 0));
        Edge.taken("write, another one's book has 16", 6, () -> States.entries(16), x -> write(x, 1));
    }

    private static Supplier<Coast> fullRowAndBook() {
        return States.row(40, States.then(() -> States.entries(16), x -> write(x, 4)));
    }

    /** "the station began one write more": a refused one is none */
    private static void writeCountsOnlyWhatBegan() {
        Coast c = States.row(37, States::writing).get();
        Check.dueThrow("write, no room", ROOM, () -> write(c.x, 3));
        Check.dueThrow("write, argument", ARGUMENT, () -> c.x.write(3, 4, 0, 0));
        c.x.stop(3);
        Check.dueThrow("write, stopped", STATE, () -> write(c.x, 3));
        c.x.start(3);
        c.x.lose(0);
        Check.due("the first write", write(c.x, 3), 8);
    }

    private static void withdrawOfNoStation() {
        Edge.noStation("withdraw", States::committed, (x, s) -> x.withdraw(s, 0));
        Edge.noStation("withdraw, no notice", States::committed, (x, s) -> x.withdraw(s, 1));
        Edge.noStation("withdraw, no room", States.row(40, States::committed), (x, s) -> x.withdraw(s, 0));
    }

    /** "NoSuchElementException when its book has no notice at place k" */
    private static void withdrawOfAPlace() {
        Supplier<Coast> three = () -> States.entries(3);
        for (int k = 0; k < 3; k++) {
            int place = k;
            Coast c = Edge.taken("withdraw " + k, 20, three, x -> x.withdraw(0, place));
            c.x.decide(0);
            Check.due("the withdrawal", c.x.entry(0, 3, false), -1 - k);
            Check.due("its number", c.x.entry(0, 3, true), 20);
        }
        for (int k : new int[] {-1, 3, 4, 15, 16, Integer.MIN_VALUE, Integer.MAX_VALUE}) {
            Edge.refused("withdraw " + k + " of 3", ELEMENT, three, x -> x.withdraw(0, k));
        }
        Edge.refused("withdraw of an empty book", ELEMENT, three, x -> x.withdraw(4, 0));
        Edge.taken("withdraw of a shorter book, its last", 6, three, x -> x.withdraw(1, 1));
        Edge.refused("withdraw of a shorter book, behind it", ELEMENT, three, x -> x.withdraw(1, 2));
    }

    /** the least notice is the entry 0, the greatest withdrawal the entry -1 */
    private static void withdrawOfTheLeastNotice() {
        Supplier<Coast> least = States.then(() -> States.entries(3), x -> {
            x.write(0, 0, 0, 0);
            x.decide(0);
        });
        Edge.taken("withdraw the entry 0", 25, least, x -> x.withdraw(0, 3));
        Supplier<Coast> greatest = States.then(() -> States.entries(3), x -> {
            x.withdraw(0, 0);
            x.decide(0);
        });
        Edge.refused("withdraw the entry -1", ELEMENT, greatest, x -> x.withdraw(0, 3));
    }

    /** Four entries of station 0, the last being the withdrawal of place 1. */
    private static Coast withdrawn() {
        Coast c = States.entries(3);
        c.x.withdraw(0, 1);
        c.x.decide(0);
        c.loseAll();
        return c;
    }

    /** a place with a withdrawal has no notice */
    private static void withdrawOfAWithdrawal() {
        Edge.refused("withdraw a withdrawal", ELEMENT, EdgesOfWritingTest::withdrawn, x -> x.withdraw(0, 3));
        Edge.refused("withdraw behind it", ELEMENT, EdgesOfWritingTest::withdrawn, x -> x.withdraw(0, 4));
    }

    /** "or one that is withdrawn": in its own book */
    private static void withdrawOfAWithdrawnOne() {
        Supplier<Coast> withdrawn = EdgesOfWritingTest::withdrawn;
        Edge.taken("withdraw the one before", 25, withdrawn, x -> x.withdraw(0, 0));
        Edge.refused("withdraw a withdrawn one", ELEMENT, withdrawn, x -> x.withdraw(0, 1));
        Edge.taken("withdraw the one behind", 25, withdrawn, x -> x.withdraw(0, 2));
        Edge.taken("withdraw, withdrawn in another book alone", 6, withdrawn, x -> x.withdraw(1, 1));
        Supplier<Coast> open = States.then(() -> States.entries(3), x -> {
            x.withdraw(0, 1);
            x.giveUp(0);
        });
        Edge.taken("withdraw, the first withdrawal given up", 25, open, x -> x.withdraw(0, 1));
    }

    /** The last place that can be withdrawn is 14, by the entry at 15. */
    private static void withdrawOfTheLastPlace() {
        Coast c = Edge.taken("withdraw 14", 80, () -> States.entries(15), x -> x.withdraw(0, 14));
        Check.due("decide", c.x.decide(0), true);
        Check.due("the withdrawal", c.x.entry(0, 15, false), -15);
        Check.due("in force", c.x.inForce(0, 0, 50), 14);
        Edge.refused("withdraw 15 of 15", ELEMENT, () -> States.entries(15), x -> x.withdraw(0, 15));
    }

    private static void withdrawWithPlaceFirst() {
        Supplier<Coast> two = () -> States.entries(2);
        for (int k : new int[] {-1, 2}) {
            Edge.refused("no notice, stopped", ELEMENT, States.stopped(0, two), x -> x.withdraw(0, k));
            Edge.refused("no notice, open", ELEMENT, States.then(two, x -> write(x, 0)), x -> x.withdraw(0, k));
            Edge.refused("no notice, locked", ELEMENT, lockedWith(2), x -> x.withdraw(0, k));
            Edge.refused("no notice, row full", ELEMENT, States.row(40, States.then(two, x -> write(x, 4))),
                    x -> x.withdraw(0, k));
        }
        Edge.refused("withdrawn, stopped", ELEMENT, States.stopped(0, EdgesOfWritingTest::withdrawn),
                x -> x.withdraw(0, 1));
        Edge.refused("no notice, in doubt", ELEMENT, States::doubting, x -> x.withdraw(1, 0));
        Edge.refused("no notice, book full", ELEMENT, () -> States.entries(16), x -> x.withdraw(0, 16));
        Edge.refused("no notice, book full", ELEMENT, () -> States.entries(16), x -> x.withdraw(0, -1));
    }

    /** Station 1 has one entry and is in doubt about a second one of station 0. */
    private static Coast doubtingWithOne() {
        Coast c = States.entries(1);
        write(c.x, 0);
        States.deliver(c, 0, 3);
        c.x.decide(0);
        c.x.deliver(3);
        return c;
    }

    /** "IllegalStateException .. as for write" */
    private static void withdrawWhenStoppedLockedOrInDoubt() {
        Supplier<Coast> two = () -> States.entries(2);
        Edge.refused("withdraw, stopped", STATE, States.stopped(0, two), x -> x.withdraw(0, 1));
        Edge.taken("withdraw, started", 15, States.then(States.stopped(0, two), x -> x.start(0)),
                x -> x.withdraw(0, 1));
        Edge.refused("withdraw, open", STATE, States.then(two, x -> write(x, 0)), x -> x.withdraw(0, 1));
        Edge.refused("withdraw, locked", STATE, lockedWith(2), x -> x.withdraw(0, 1));
        Edge.taken("withdraw, unlocked", 15, States.then(lockedWith(2), x -> x.unlock(0)), x -> x.withdraw(0, 1));
        Supplier<Coast> doubting = EdgesOfWritingTest::doubtingWithOne;
        Edge.refused("withdraw, in doubt", STATE, doubting, x -> x.withdraw(1, 0));
        Edge.taken("withdraw, doubt ended", 6, States.then(doubting, x -> {
            x.deliver(3);
            x.deliver(3);
        }), x -> x.withdraw(1, 0));
    }

    private static void withdrawWithStateBeforeRoom() {
        Supplier<Coast> fullRow = States.row(40, States.then(() -> States.entries(2), x -> write(x, 4)));
        Edge.refused("withdraw, stopped, row full", STATE, States.stopped(0, fullRow), x -> x.withdraw(0, 1));
        Edge.refused("withdraw, locked, row full", STATE, States.row(40, lockedWith(2)), x -> x.withdraw(0, 1));
        Edge.refused("withdraw, in doubt, row full", STATE, States.row(40, EdgesOfWritingTest::doubtingWithOne),
                x -> x.withdraw(1, 0));
        Edge.refused("withdraw, stopped, book full", STATE, States.stopped(0, () -> States.entries(16)),
                x -> x.withdraw(0, 1));
        Edge.refused("withdraw, locked, book full", STATE, lockedWith(16), x -> x.withdraw(0, 1));
    }

    /** "UnsupportedOperationException as for write": more than 40 letters */
    private static void withdrawWithRoomForFour() {
        Supplier<Coast> two = States.then(() -> States.entries(2), x -> write(x, 4));
        Coast c = Edge.taken("withdraw, 36 letters", 15, States.row(36, two), x -> x.withdraw(0, 1));
        Check.due("letters", c.x.letters(), 40);
        for (int letters = 37; letters <= 40; letters++) {
            Edge.refused("withdraw, " + letters + " letters", ROOM, States.row(letters, two),
                    x -> x.withdraw(0, 1));
        }
    }

    /** "UnsupportedOperationException as for write": its book has 16 entries */
    private static void withdrawAsTheSixteenth() {
        Coast c = Edge.taken("withdraw, 15 entries", 80, () -> States.entries(15), x -> x.withdraw(0, 0));
        Check.due("decide", c.x.decide(0), true);
        Check.due("count", c.x.count(0), 16);
        for (int k : new int[] {0, 15}) {
            Edge.refused("withdraw " + k + " of 16", ROOM, () -> States.entries(16), x -> x.withdraw(0, k));
            Edge.refused("withdraw, row full too", ROOM, fullRowAndBook(), x -> x.withdraw(0, k));
        }
    }
}
