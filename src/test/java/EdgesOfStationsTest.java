import java.util.function.Supplier;

/** Promises 2 and 8 to 11: each sentence that names an edge of cable, unlock, ask, stop and start, from both sides. */
public final class EdgesOfStationsTest {
    private static final Class<IndexOutOfBoundsException> NO_SUCH = IndexOutOfBoundsException.class;
    private static final Class<IllegalStateException> STATE = IllegalStateException.class;
    private static final Class<UnsupportedOperationException> ROOM = UnsupportedOperationException.class;

    private EdgesOfStationsTest() {
    }

    public static void main(String[] args) {
        cableOfNoStation();
        cableOfOneStation();
        cableThatIsNew();
        unlockOfNoStation();
        unlockWithoutALock();
        unlockOfAnOpenWrite();
        unlockOfAnotherOnes();
        askOfNoStation();
        askOfItself();
        askWhenStopped();
        askWithoutDoubt();
        askWithStateBeforeRoom();
        askWithRoomForOne();
        stopOfNoStation();
        stopWhetherItWasUp();
        stopChangesNothingStored();
        stopEndsLockAndOpenWrite();
        startOfNoStation();
        startWhetherItWasStopped();
        startWithoutLockAndOpenWrite();
        Check.end();
    }

    /** "IndexOutOfBoundsException: there is no such station" */
    private static void cableOfNoStation() {
        Supplier<Coast> torn = States.then(States::doubting, x -> x.cable(1, 2, false));
        for (boolean up : new boolean[] {false, true}) {
            Edge.noStation("cable, the first", torn, (x, s) -> x.cable(s, 1, up));
            Edge.noStation("cable, the second", torn, (x, s) -> x.cable(1, s, up));
            Edge.noStation("cable, both", torn, (x, s) -> x.cable(s, s, up));
        }
        Edge.taken("cable, first and last", true, States::fresh, x -> x.cable(0, 4, false));
        Edge.taken("cable, last and first", true, States::fresh, x -> x.cable(4, 0, false));
    }

    /** "IndexOutOfBoundsException also when a is b" */
    private static void cableOfOneStation() {
        for (int s = 0; s < 5; s++) {
            int station = s;
            Edge.refused("no cable to itself", NO_SUCH, States::doubting, x -> x.cable(station, station, true));
            Edge.refused("no cable to itself", NO_SUCH, States::doubting, x -> x.cable(station, station, false));
        }
    }

    /** "whether that is new" */
    private static void cableThatIsNew() {
        for (int s = 0; s < 5; s++) {
            for (int t = 0; t < 5; t++) {
                if (s != t) {
                    cableThatIsNew(s, t);
                }
            }
        }
        // a stopped station keeps its cables
        Edge.idle("it is there, stopped", false, States.stopped(1, States::fresh), x -> x.cable(0, 1, true));
        Edge.taken("it tears, stopped", true, States.stopped(1, States::fresh), x -> x.cable(0, 1, false));
    }

    private static void cableThatIsNew(int a, int b) {
        Supplier<Coast> torn = States.then(States::fresh, x -> x.cable(a, b, false));
        Edge.idle("it is there", false, States::fresh, x -> x.cable(a, b, true));
        Edge.idle("it is torn", false, torn, x -> x.cable(a, b, false));
        Edge.idle("it is torn, said the other way", false, torn, x -> x.cable(b, a, false));
        Coast c = Edge.taken("it is mended", true, torn, x -> x.cable(b, a, true));
        Check.due("it is there again", c.x.cable(a, b, true), false);
        Coast d = torn.get();
        for (int s = 0; s < 5; s++) {
            for (int t = 0; t < s; t++) {
                boolean same = Math.max(a, b) == s && Math.min(a, b) == t;
                Check.due("no other one is torn", d.x.cable(s, t, true), same);
            }
        }
    }

    private static void unlockOfNoStation() {
        Edge.noStation("unlock", States::collecting, (x, s) -> x.unlock(s));
    }

    /** "IllegalStateException when it has none" */
    private static void unlockWithoutALock() {
        for (int s = 0; s < 5; s++) {
            int station = s;
            Edge.refused("unlock, new", STATE, States::fresh, x -> x.unlock(station));
        }
        Edge.refused("unlock, not locked yet", STATE, States::collecting, x -> x.unlock(3));
        Edge.refused("unlock, unlocked", STATE, States.then(States::collecting, x -> x.unlock(1)), x -> x.unlock(1));
        Edge.refused("unlock, in doubt", STATE, States::doubting, x -> x.unlock(1));
        Edge.refused("unlock, committed", STATE, States::committed, x -> x.unlock(0));
        Edge.refused("unlock, given up", STATE, States.then(States::collecting, x -> x.giveUp(0)), x -> x.unlock(0));
        Supplier<Coast> stopped = States.stopped(1, States::collecting);
        Edge.refused("unlock, stopped", STATE, stopped, x -> x.unlock(1));
        Edge.refused("unlock, started anew", STATE, States.then(stopped, x -> x.start(1)), x -> x.unlock(1));
    }

    /** "or an open write" */
    private static void unlockOfAnOpenWrite() {
        Edge.refused("unlock, collecting", STATE, States::collecting, x -> x.unlock(0));
        Edge.refused("unlock, preparing", STATE, States::preparing, x -> x.unlock(0));
    }

    /** "A station's lock is none." */
    private static void unlockOfAnotherOnes() {
        Coast c = Edge.done("unlock", States::preparing, x -> x.unlock(1));
        c.dueStation(1, "5 0 0 -1 -1 -1 1");
        c.dueStation(2, "5 0 0 -1 5 -1 1");
        c.dueStation(0, "5 0 1 -1 5 5 1");
        Check.due("no letter more", c.x.letters(), 4);
        Edge.done("unlock, the writer stopped", States.stopped(0, States::collecting), x -> x.unlock(1));
        Edge.done("unlock, apart", States.apart(1, States::collecting), x -> x.unlock(1));
    }

    private static void askOfNoStation() {
        Edge.noStation("ask", States::doubting, (x, s) -> x.ask(s, 1));
        Edge.noStation("ask another", States::doubting, (x, s) -> x.ask(1, s));
        Edge.noStation("ask another, not in doubt", States::doubting, (x, s) -> x.ask(3, s));
        Edge.noStation("ask another, stopped", States.stopped(1, States::doubting), (x, s) -> x.ask(1, s));
        Edge.noStation("ask another, row full", States.row(40, States::doubting), (x, s) -> x.ask(1, s));
        for (int other : new int[] {0, 2, 3, 4}) {
            Coast c = Edge.done("ask " + other, States::doubting, x -> x.ask(1, other));
            c.dueRow("0:0>3#5 0:0>4#5 2:0>2#5 3:1>0#5 6:1>" + other + "#5");
        }
    }

    /** "IndexOutOfBoundsException also when that is itself" */
    private static void askOfItself() {
        Edge.refused("ask itself", NO_SUCH, States::doubting, x -> x.ask(1, 1));
        Edge.refused("ask itself, stopped", NO_SUCH, States.stopped(1, States::doubting), x -> x.ask(1, 1));
        Edge.refused("ask itself, row full", NO_SUCH, States.row(40, States::doubting), x -> x.ask(1, 1));
        for (int s : new int[] {0, 2, 3, 4}) {
            Edge.refused("ask itself, not in doubt", NO_SUCH, States::doubting, x -> x.ask(s, s));
        }
    }

    /** "IllegalStateException when it is stopped" */
    private static void askWhenStopped() {
        Supplier<Coast> stopped = States.stopped(1, States::doubting);
        Edge.refused("ask, stopped", STATE, stopped, x -> x.ask(1, 0));
        Edge.done("ask, started anew", States.then(stopped, x -> x.start(1)), x -> x.ask(1, 0));
        Edge.done("ask of a stopped one", States.stopped(0, States::doubting), x -> x.ask(1, 0));
        Edge.done("ask of one apart", States.apart(0, States::doubting), x -> x.ask(1, 0));
    }

    /** "or not in doubt" */
    private static void askWithoutDoubt() {
        Edge.refused("ask, new", STATE, States::fresh, x -> x.ask(1, 0));
        Edge.refused("ask, locked", STATE, States::preparing, x -> x.ask(1, 0));
        Edge.refused("ask, a writer that prepares", STATE, States::doubting, x -> x.ask(0, 1));
        Supplier<Coast> stored = States.then(States::committed, x -> x.deliver(2));
        Edge.refused("ask, stored", STATE, stored, x -> x.ask(1, 0));
        Edge.done("ask, not yet stored", stored, x -> x.ask(2, 0));
        Supplier<Coast> aborted = States.then(States::doubting, x -> {
            x.giveUp(0);
            x.deliver(4);
        });
        Edge.refused("ask, aborted", STATE, aborted, x -> x.ask(1, 0));
    }

    private static void askWithStateBeforeRoom() {
        Edge.refused("ask, not in doubt, row full", STATE, States.row(40, States::doubting), x -> x.ask(2, 0));
        Edge.refused("ask, stopped, row full", STATE, States.stopped(1, States.row(40, States::doubting)),
                x -> x.ask(1, 0));
    }

    /** "UnsupportedOperationException: there would be more than 40 letters" */
    private static void askWithRoomForOne() {
        Coast c = Edge.done("ask, 39 letters", States.row(39, States::doubting), x -> x.ask(1, 0));
        Check.due("letters", c.x.letters(), 40);
        Check.due("the last letter", c.x.letter(39, 0), Coast.ASK);
        Edge.refused("ask, 40 letters", ROOM, States.row(40, States::doubting), x -> x.ask(1, 0));
    }

    private static void stopOfNoStation() {
        Edge.noStation("stop", States::doubting, (x, s) -> x.stop(s));
    }

    /** "whether it was up" */
    private static void stopWhetherItWasUp() {
        for (int s = 0; s < 5; s++) {
            int station = s;
            Coast c = Edge.taken("stop, up", true, States::fresh, x -> x.stop(station));
            for (int t = 0; t < 5; t++) {
                c.dueStation(t, "5 0 0 -1 -1 -1 " + (t == s ? 0 : 1));
            }
            Edge.idle("stop, stopped", false, States.stopped(s, States::doubting), x -> x.stop(station));
        }
        Edge.taken("stop, started", true, States.then(States.stopped(3, States::fresh), x -> x.start(3)),
                x -> x.stop(3));
    }

    /** "stopping changes none of it": book, size, named one, writes begun, what it is prepared for */
    private static void stopChangesNothingStored() {
        Coast c = Edge.taken("stop", true, () -> States.entries(2), x -> x.stop(0));
        c.dueStation(0, "2 0 2 -1 -1 -1 0 39600#5 39600#10");
        Coast d = Edge.taken("stop, in doubt", true, States::doubting, x -> x.stop(1));
        d.dueStation(1, "5 0 0 5 -1 -1 0");
        Check.due("its letters stay", d.x.letters(), 4);
        d.x.start(1);
        d.x.write(3, 0, 0, 0);
        d.pass(Coast.LOCK, 3, 1);
        d.dueStation(1, "5 0 0 5 -1 -1 1");
        Coast e = States.then(States.stopped(1, States::committed), x -> x.start(1)).get();
        e.pass(Coast.COMMIT, 0, 1);
        e.dueStation(1, "3 0 0 -1 -1 -1 1 39600#5");
    }

    /** "Besides it has, as long as it is up: a LOCK .. or none; and an OPEN WRITE of its own or none" */
    private static void stopEndsLockAndOpenWrite() {
        Edge.taken("stop, collecting", true, States::collecting, x -> x.stop(0)).dueStation(0, "5 0 1 -1 -1 -1 0");
        Edge.taken("stop, preparing", true, States::preparing, x -> x.stop(0)).dueStation(0, "5 0 1 -1 -1 -1 0");
        Edge.taken("stop, locked", true, States::collecting, x -> x.stop(1)).dueStation(1, "5 0 0 -1 -1 -1 0");
        Coast c = States.then(States.stopped(0, States::collecting), x -> x.start(0)).get();
        Check.due("the next number", c.x.write(0, 0, 0, 0), 10);
        Check.due("the old grants do not count", c.x.decide(0), false);
        Check.due("what it waits for", c.x.resend(0), 4);
    }

    private static void startOfNoStation() {
        Edge.noStation("start", States.stopped(2, States::doubting), (x, s) -> x.start(s));
    }

    /** "whether it was stopped" */
    private static void startWhetherItWasStopped() {
        for (int s = 0; s < 5; s++) {
            int station = s;
            Edge.idle("start, up", false, States::fresh, x -> x.start(station));
            Coast c = Edge.taken("start, stopped", true, States.stopped(s, States::fresh), x -> x.start(station));
            c.dueStation(s, "5 0 0 -1 -1 -1 1");
            Check.due("start again", c.x.start(s), false);
        }
        Edge.idle("start, up and in doubt", false, States::doubting, x -> x.start(1));
        Coast d = Edge.taken("start, stopped in doubt", true, States.stopped(1, States::doubting), x -> x.start(1));
        d.dueStation(1, "5 0 0 5 -1 -1 1");
    }

    /** "The station is up, without lock and open write": also when it was up before */
    private static void startWithoutLockAndOpenWrite() {
        Edge.taken("start, collecting", false, States::collecting, x -> x.start(0)).dueStation(0, "5 0 1 -1 -1 -1 1");
        Edge.taken("start, preparing", false, States::preparing, x -> x.start(0)).dueStation(0, "5 0 1 -1 -1 -1 1");
        Edge.taken("start, locked", false, States::collecting, x -> x.start(1)).dueStation(1, "5 0 0 -1 -1 -1 1");
    }
}
