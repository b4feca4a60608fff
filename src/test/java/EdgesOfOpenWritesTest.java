import java.util.Arrays;
import java.util.function.Supplier;

/** Promises 5, 6 and 7: each sentence that names an edge of decide, giveUp and resend, from both sides. */
public final class EdgesOfOpenWritesTest {
    private static final Class<IllegalStateException> STATE = IllegalStateException.class;
    private static final Class<UnsupportedOperationException> ROOM = UnsupportedOperationException.class;

    private EdgesOfOpenWritesTest() {
    }

    public static void main(String[] args) {
        decideOfNoStation();
        decideWithoutAnOpenWrite();
        decideWhenItPrepares();
        decideWithStateBeforeRoom();
        decideByEveryGroup();
        decideByHoldersAlone();
        decideByANamedHolder();
        decideWithRoomForPrepares();
        decideNeedsNoRoomWhenAlone();
        decideOfTheSixteenth();
        decideFalseBeforeRoom();
        decideFalseBeforeASeventeenth();
        giveUpOfNoStation();
        giveUpWithoutAnOpenWrite();
        giveUpOfEitherKind();
        giveUpWithStateBeforeRoom();
        giveUpWithRoomForFour();
        resendOfNoStation();
        resendWithoutAnOpenWrite();
        resendOfLocks();
        resendOfPrepares();
        resendWithStateBeforeRoom();
        resendWithRoom();
        Check.end();
    }

    private static int write(NoticeStations x, int station) {
        return x.write(station, 0, 0, 99);
    }

    /** A write that the writer collects for, granted by so many others, and the twin of a LOCK in the row. */
    private static Supplier<Coast> granted(Supplier<Coast> state, int writer, int... others) {
        return () -> {
            Coast c = state.get();
            write(c.x, writer);
            c.x.twin(0);
            c.grant(writer, others);
            return c;
        };
    }

    private static void decideOfNoStation() {
        Edge.noStation("decide", States::collecting, (x, s) -> x.decide(s));
        Edge.noStation("decide, no room", States.row(40, States::collecting), (x, s) -> x.decide(s));
    }

    /** "IllegalStateException when the station has no open write that collects": none at all */
    private static void decideWithoutAnOpenWrite() {
        Edge.taken("decide, open", true, States::collecting, x -> x.decide(0));
        for (int s = 0; s < 5; s++) {
            int station = s;
            Edge.refused("decide, new", STATE, States::fresh, x -> x.decide(station));
            Edge.refused("decide, committed", STATE, States::committed, x -> x.decide(station));
        }
        for (int s = 1; s < 5; s++) {
            int station = s;
            Edge.refused("decide, another one's open", STATE, States::collecting, x -> x.decide(station));
        }
        Edge.refused("decide, in doubt", STATE, States::doubting, x -> x.decide(1));
        Edge.refused("decide, given up", STATE, States.then(States::collecting, x -> x.giveUp(0)), x -> x.decide(0));
        Supplier<Coast> stopped = States.stopped(0, States::collecting);
        Edge.refused("decide, stopped", STATE, stopped, x -> x.decide(0));
        Edge.refused("decide, started anew", STATE, States.then(stopped, x -> x.start(0)), x -> x.decide(0));
        Edge.refused("decide, committed at once", STATE, States.then(() -> States.entries(2), x -> {
            write(x, 0);
            x.decide(0);
        }), x -> x.decide(0));
    }

    /** "IllegalStateException when the station has no open write that collects": one that prepares */
    private static void decideWhenItPrepares() {
        Edge.refused("decide, preparing", STATE, States::preparing, x -> x.decide(0));
        Edge.refused("decide, partly prepared", STATE, States.then(States::doubting, x -> x.deliver(3)),
                x -> x.decide(0));
    }

    private static void decideWithStateBeforeRoom() {
        Edge.refused("decide, none open, row full", STATE, States.row(40, States::collecting), x -> x.decide(3));
        Edge.refused("decide, preparing, row full", STATE, States.row(40, States::preparing), x -> x.decide(0));
        Edge.refused("decide, none open, book full", STATE, () -> States.entries(16), x -> x.decide(0));
    }

    /**
     * "more than half of the size that they have, or just half of it with their named one among them": every group of
     * stations that grant, with every writer, after a last write of 5, 4, 3, 2 and 1 of them.
     */
    private static void decideByEveryGroup() {
        everyGroup(States::fresh, 0, 0b11111);
        everyGroup(() -> writtenBy(0, 1, 2, 3, 4), 1, 0b11111);
        everyGroup(() -> writtenBy(1, 2, 3, 4), 1, 0b11110);
        everyGroup(() -> writtenBy(4, 3, 2, 0), 1, 0b11101);
        everyGroup(() -> States.entries(1), 1, 0b00111);
        everyGroup(() -> writtenBy(3, 2, 4), 1, 0b11100);
        everyGroup(() -> States.entries(2), 2, 0b00011);
        everyGroup(EdgesOfOpenWritesTest::writtenByTheLastTwo, 2, 0b11000);
        everyGroup(() -> States.entries(3), 3, 0b00001);
    }

    private static Coast writtenBy(int writer, int... others) {
        Coast c = new Coast();
        c.written(writer, others);
        return c;
    }

    private static Coast writtenByTheLastTwo() {
        Coast c = writtenBy(4, 3, 2);
        c.written(4, 3);
        return c;
    }

    private static void everyGroup(Supplier<Coast> state, int places, int last) {
        for (int mask = 1; mask < 32; mask++) {
            for (int writer = 0; writer < 5; writer++) {
                if ((mask >> writer & 1) != 0) {
                    oneGroup(state, places, last, mask, writer);
                }
            }
        }
    }

    private static void oneGroup(Supplier<Coast> state, int places, int last, int mask, int writer) {
        int[] others = members(mask & ~(1 << writer));
        Supplier<Coast> collecting = () -> {
            Coast c = state.get();
            write(c.x, writer);
            c.grant(writer, others);
            c.loseAll();
            return c;
        };
        int holders = Integer.bitCount(mask & last);
        int size = Integer.bitCount(last);
        boolean named = (mask & last & -last) != 0;
        boolean may = 2 * holders > size || 2 * holders == size && named;
        String call = "decide of " + writer + " in " + mask + " after " + last;
        if (may) {
            Coast c = Edge.taken(call, true, collecting, x -> x.decide(writer));
            Check.due("PREPAREs", c.x.letters(), others.length);
            c.finishPrepared(writer, others);
            for (int member : members(mask)) {
                Check.due("the new size", c.x.about(member, Coast.SIZE), others.length + 1);
                Check.due("the new named one", c.x.about(member, Coast.NAMED), Integer.numberOfTrailingZeros(mask));
                Check.due("the new book", c.x.count(member), places + 1);
            }
        } else {
            Edge.idle(call, false, collecting, x -> x.decide(writer));
        }
    }

    private static int[] members(int mask) {
        return Arrays.stream(new int[] {0, 1, 2, 3, 4}).filter(s -> (mask >> s & 1) != 0).toArray();
    }

    /** "of what was granted, those with the most entries in their books are THE HOLDERS": others do not count */
    private static void decideByHoldersAlone() {
        Supplier<Coast> oneOfThree = granted(() -> States.entries(1), 3, 4, 1);
        Edge.idle("one of three, with two others", false, oneOfThree, x -> x.decide(3));
        Supplier<Coast> twoOfThree = granted(() -> States.entries(1), 3, 4, 1, 2);
        Coast c = Edge.taken("two of three, with two others", true, twoOfThree, x -> x.decide(3));
        c.loseAllBut(Coast.PREPARE);
        c.dueRow("2:3>1#8 2:3>2#8 2:3>4#8");
    }

    /** "with their named one among them": among the holders, not only among those that granted */
    private static void decideByANamedHolder() {
        Supplier<Coast> oldGrant = () -> {
            Coast c = new Coast();
            write(c.x, 4);
            c.grant(4, 0);
            c.x.unlock(0);
            c.loseAll();
            c.written(2, 0, 1, 3);
            c.x.resend(4);
            return c;
        };
        Supplier<Coast> half = () -> {
            Coast c = oldGrant.get();
            c.grant(4, 2, 3);
            return c;
        };
        Edge.idle("half of four, the named one granted its older book", false, half, x -> x.decide(4));
        Edge.taken("more than half of four", true, () -> {
            Coast c = half.get();
            c.grant(4, 1);
            return c;
        }, x -> x.decide(4));
    }

    /** "UnsupportedOperationException: there would be more than 40 letters": one for each other one of the group */
    private static void decideWithRoomForPrepares() {
        roomForPrepares(granted(() -> States.entries(2), 0, 1), 1);
        roomForPrepares(granted(States::fresh, 0, 1, 2), 2);
        roomForPrepares(granted(States::fresh, 0, 1, 2, 3), 3);
        roomForPrepares(granted(States::fresh, 0, 1, 2, 3, 4), 4);
    }

    private static void roomForPrepares(Supplier<Coast> state, int others) {
        int most = 40 - others;
        Coast c = Edge.taken("decide, room for " + others, true, States.row(most, state), x -> x.decide(0));
        Check.due("letters", c.x.letters(), 40);
        for (int letters = most + 1; letters <= 40; letters++) {
            Edge.refused("decide, " + letters + " letters, " + others + " more", ROOM, States.row(letters, state),
                    x -> x.decide(0));
        }
    }

    /** "or is committed at once": alone it sends none */
    private static void decideNeedsNoRoomWhenAlone() {
        for (int many = 2; many < 4; many++) {
            int places = many;
            Supplier<Coast> alone = States.row(40, States.then(() -> States.entries(places), x -> write(x, 0)));
            Coast c = Edge.taken("decide alone, row full", true, alone, x -> x.decide(0));
            Check.due("letters", c.x.letters(), 40);
            Check.due("count", c.x.count(0), places + 1);
            Check.due("size", c.x.about(0, Coast.SIZE), 1);
            Check.due("lock", c.x.about(0, Coast.HELD), Coast.NONE);
            Check.due("open write", c.x.about(0, Coast.OPEN), Coast.NONE);
        }
    }

    /** "UnsupportedOperationException also when the new book would have 17 entries": that of a holder, not its own */
    private static void decideOfTheSixteenth() {
        Coast c = Edge.taken("decide, a holder has 15", true, granted(() -> States.entries(15), 4, 0),
                x -> x.decide(4));
        c.finishPrepared(4, 0);
        Check.due("count(4)", c.x.count(4), 16);
        Check.due("its last number", c.x.entry(4, 15, true), 9);
        Check.due("count(0)", c.x.count(0), 16);
        Edge.refused("decide, a holder has 16", ROOM, granted(() -> States.entries(16), 4, 0), x -> x.decide(4));
        Edge.refused("decide, a holder has 16, row full", ROOM,
                States.row(40, granted(() -> States.entries(16), 4, 0)), x -> x.decide(4));
    }

    /** "false, changing nothing, when it may not": then no letter would be sent */
    private static void decideFalseBeforeRoom() {
        for (int letters : new int[] {38, 39, 40}) {
            Edge.idle("decide, two of five, " + letters + " letters", false,
                    States.row(letters, States::collectingTwo), x -> x.decide(0));
        }
    }

    /** "false, changing nothing, when it may not": then there would be no new book */
    private static void decideFalseBeforeASeventeenth() {
        Supplier<Coast> full = () -> States.entriesOfTwo(16);
        Edge.idle("decide, half without the named one, 16 entries", false, granted(full, 4, 1), x -> x.decide(4));
        Edge.refused("decide, half with the named one, 16 entries", ROOM, granted(full, 4, 0), x -> x.decide(4));
    }

    private static void giveUpOfNoStation() {
        Edge.noStation("giveUp", States::collecting, (x, s) -> x.giveUp(s));
        Edge.noStation("giveUp, no room", States.row(40, States::collecting), (x, s) -> x.giveUp(s));
    }

    /** "IllegalStateException when there is no open write" */
    private static void giveUpWithoutAnOpenWrite() {
        for (int s = 0; s < 5; s++) {
            int station = s;
            Edge.refused("giveUp, new", STATE, States::fresh, x -> x.giveUp(station));
            Edge.refused("giveUp, committed", STATE, States::committed, x -> x.giveUp(station));
        }
        Edge.refused("giveUp, locked alone", STATE, States::collecting, x -> x.giveUp(1));
        Edge.refused("giveUp, in doubt", STATE, States::doubting, x -> x.giveUp(1));
        Edge.refused("giveUp, given up", STATE, States.then(States::writing, x -> x.giveUp(0)), x -> x.giveUp(0));
        Supplier<Coast> stopped = States.stopped(0, States::preparing);
        Edge.refused("giveUp, stopped", STATE, stopped, x -> x.giveUp(0));
        Edge.refused("giveUp, started anew", STATE, States.then(stopped, x -> x.start(0)), x -> x.giveUp(0));
    }

    /** "it and the lock are none; an ABORT to each other station is sent": of the group or not */
    private static void giveUpOfEitherKind() {
        Coast c = Edge.done("giveUp, collecting", States::collecting, x -> x.giveUp(0));
        c.dueRow("0:0>3#5 0:0>4#5 5:0>1#5 5:0>2#5 5:0>3#5 5:0>4#5");
        c.dueStation(0, "5 0 1 -1 -1 -1 1");
        Coast d = Edge.done("giveUp, preparing", States::preparing, x -> x.giveUp(0));
        d.dueRow("0:0>3#5 0:0>4#5 2:0>1#5 2:0>2#5 5:0>1#5 5:0>2#5 5:0>3#5 5:0>4#5");
        d.dueStation(0, "5 0 1 -1 -1 -1 1");
        Check.due("the next number", write(d.x, 0), 10);
    }

    private static void giveUpWithStateBeforeRoom() {
        Edge.refused("giveUp, none open, row full", STATE, States.row(40, States::collecting), x -> x.giveUp(1));
        Edge.refused("giveUp, stopped, row full", STATE, States.stopped(0, States.row(40, States::collecting)),
                x -> x.giveUp(0));
    }

    /** "UnsupportedOperationException: there would be more than 40 letters" */
    private static void giveUpWithRoomForFour() {
        roomToGiveUp(States::writing);
        roomToGiveUp(States::preparing);
        roomToGiveUp(States::allDoubting);
    }

    private static void roomToGiveUp(Supplier<Coast> state) {
        Coast c = Edge.done("giveUp, 36 letters", States.row(36, state), x -> x.giveUp(0));
        Check.due("letters", c.x.letters(), 40);
        Check.due("the last letter", c.x.letter(39, 0), Coast.ABORT);
        for (int letters = 37; letters <= 40; letters++) {
            Edge.refused("giveUp, " + letters + " letters", ROOM, States.row(letters, state), x -> x.giveUp(0));
        }
    }

    private static void resendOfNoStation() {
        Edge.noStation("resend", States::collecting, (x, s) -> x.resend(s));
        Edge.noStation("resend, no room", States.row(40, States::collecting), (x, s) -> x.resend(s));
    }

    /** "IllegalStateException when there is no open write" */
    private static void resendWithoutAnOpenWrite() {
        for (int s = 0; s < 5; s++) {
            int station = s;
            Edge.refused("resend, new", STATE, States::fresh, x -> x.resend(station));
            Edge.refused("resend, committed", STATE, States::committed, x -> x.resend(station));
        }
        Edge.refused("resend, locked alone", STATE, States::collecting, x -> x.resend(1));
        Edge.refused("resend, in doubt", STATE, States::doubting, x -> x.resend(1));
        Edge.refused("resend, given up", STATE, States.then(States::writing, x -> x.giveUp(0)), x -> x.resend(0));
        Supplier<Coast> stopped = States.stopped(0, States::preparing);
        Edge.refused("resend, stopped", STATE, stopped, x -> x.resend(0));
        Edge.refused("resend, started anew", STATE, States.then(stopped, x -> x.start(0)), x -> x.resend(0));
    }

    /** "a LOCK to each that did not grant .. how many": from all others down to none */
    private static void resendOfLocks() {
        int[][] others = {{}, {4}, {4, 0}, {4, 0, 3}, {4, 0, 3, 1}};
        String[] rows = {"0:2>0#7 0:2>1#7 0:2>3#7 0:2>4#7", "0:2>0#7 0:2>1#7 0:2>3#7", "0:2>1#7 0:2>3#7", "0:2>1#7",
            ""};
        for (int many = 0; many < 5; many++) {
            int[] granting = others[many];
            Supplier<Coast> state = () -> {
                Coast c = new Coast();
                write(c.x, 2);
                c.grant(2, granting);
                c.loseAll();
                return c;
            };
            Coast c = Edge.taken("resend, " + many + " granted", 4 - many, state, x -> x.resend(2));
            c.dueRow(rows[many]);
            Check.due("resend once more", c.x.resend(2), 4 - many);
        }
        Edge.idle("resend, all granted", 0, granted(States::fresh, 2, 0, 1, 3, 4), x -> x.resend(2));
        // a GRANT that is on its way has not granted
        Edge.taken("resend, granted on the way", 4, States.then(States::writing, x -> x.deliver(0)), x -> x.resend(0));
    }

    /** "or a PREPARE to each of the group that is not prepared: how many" */
    private static void resendOfPrepares() {
        Coast c = Edge.taken("resend, none prepared", 2, States::preparing, x -> x.resend(0));
        c.dueRow("0:0>3#5 0:0>4#5 2:0>1#5 2:0>2#5 2:0>1#5 2:0>2#5");
        // a PREPARED that is on its way does not count
        Coast d = Edge.taken("resend, prepared on the way", 2, States::allDoubting, x -> x.resend(0));
        d.dueRow("0:0>3#5 0:0>4#5 3:1>0#5 3:2>0#5 2:0>1#5 2:0>2#5");
        Coast e = Edge.taken("resend, one prepared", 1, States.then(States::allDoubting, x -> x.deliver(2)),
                x -> x.resend(0));
        e.dueRow("0:0>3#5 0:0>4#5 3:2>0#5 2:0>2#5");
        // what is sent again is the same: it prepares
        Coast f = States.then(States::preparing, x -> x.lose(2)).get();
        f.x.lose(2);
        f.x.resend(0);
        f.finishPrepared(0, 1, 2);
        f.dueStation(1, "3 0 0 -1 -1 -1 1 39600#5");
    }

    private static void resendWithStateBeforeRoom() {
        Edge.refused("resend, none open, row full", STATE, States.row(40, States::collecting), x -> x.resend(1));
        Edge.refused("resend, stopped, row full", STATE, States.stopped(0, States.row(40, States::collecting)),
                x -> x.resend(0));
    }

    /** "UnsupportedOperationException: there would be more than 40 letters" */
    private static void resendWithRoom() {
        roomToResend(States::writing, 4);
        roomToResend(States::collectingTwo, 3);
        roomToResend(States::collecting, 2);
        roomToResend(granted(States::fresh, 0, 1, 2, 3), 1);
        roomToResend(granted(States::fresh, 0, 1, 2, 3, 4), 0);
        roomToResend(States.then(granted(States::fresh, 0, 1, 2, 3, 4), x -> x.decide(0)), 4);
        roomToResend(States::preparing, 2);
        roomToResend(States.then(States::allDoubting, x -> x.deliver(2)), 1);
    }

    private static void roomToResend(Supplier<Coast> state, int many) {
        int most = 40 - many;
        Coast c = Edge.taken("resend of " + many, many, States.row(most, state), x -> x.resend(0));
        Check.due("letters", c.x.letters(), 40);
        for (int letters = most + 1; letters <= 40; letters++) {
            Edge.refused("resend of " + many + ", " + letters + " letters", ROOM, States.row(letters, state),
                    x -> x.resend(0));
        }
    }
}
