import java.util.function.Supplier;

/** What each kind of letter does, when it does it, and when it does nothing: to deliver it is then to lose it. */
public final class EdgesOfDeliveryTest {
    private EdgesOfDeliveryTest() {
    }

    public static void main(String[] args) {
        lockOfAFreeOne();
        lockOfALockedOne();
        lockOfOneInDoubt();
        lockOfAWriter();
        grantThatCounts();
        grantOfAnotherNumber();
        grantWhenItPrepares();
        grantOnceMore();
        prepareThatPrepares();
        prepareWithoutTheLock();
        prepareOfABookThatIsNotShorter();
        prepareOfALongerBook();
        prepareOnceMore();
        prepareInOtherDoubt();
        preparedThatCounts();
        preparedThatCommits();
        preparedOnceMore();
        preparedOfAnotherNumber();
        commitThatStores();
        commitOfAnotherNumber();
        abortOfDoubt();
        abortOfALock();
        abortOfAnotherNumber();
        askOfAStoredWrite();
        askOfItsOwnWrite();
        askOfAnOpenWrite();
        askOfAsManyEntries();
        askCountsWhatItWasSentFor();
        Check.end();
    }

    private static int write(NoticeStations x, int station) {
        return x.write(station, 0, 0, 99);
    }

    /** "if the receiver has no lock and is not in doubt, its lock is that number" and "it sends back a GRANT" */
    private static void lockOfAFreeOne() {
        for (int to = 1; to < 5; to++) {
            Coast c = States.writing();
            c.pass(Coast.LOCK, 0, to);
            c.dueStation(to, "5 0 0 -1 5 -1 1");
            Check.due("letters", c.x.letters(), 4);
            Check.due("the GRANT is the last", c.find(Coast.GRANT, to, 0), 3);
            Check.due("its number", c.x.letter(3, 3), 5);
        }
        Coast d = States.then(States::collecting, x -> x.unlock(1)).get();
        d.x.twin(0);
        d.x.resend(0);
        Check.due("one that granted is not asked again", d.find(Coast.LOCK, 0, 1), -1);
    }

    /** a lock is kept; "If its lock is that number now": it grants that once more */
    private static void lockOfALockedOne() {
        Supplier<Coast> two = States.then(States::writing, x -> {
            x.twin(0);
            write(x, 2);
            x.deliver(0);
        });
        Edge.mute("LOCK, locked by another", two, Coast.LOCK, 2, 1);
        Coast c = two.get();
        c.pass(Coast.LOCK, 0, 1);
        c.dueStation(1, "5 0 0 -1 5 -1 1");
        c.dueRow("0:0>2#5 0:0>3#5 0:0>4#5 0:2>0#7 0:2>1#7 0:2>3#7 0:2>4#7 1:1>0#5 1:1>0#5");
        Coast d = States.then(two, x -> x.unlock(1)).get();
        d.pass(Coast.LOCK, 2, 1);
        d.dueStation(1, "5 0 0 -1 7 -1 1");
        Check.due("it grants the other", d.find(Coast.GRANT, 1, 2), d.x.letters() - 1);
    }

    /** "and is not in doubt": about another write, or the same */
    private static void lockOfOneInDoubt() {
        Edge.mute("LOCK, in doubt", States.then(States::doubting, x -> write(x, 3)), Coast.LOCK, 3, 1);
        Supplier<Coast> same = () -> {
            Coast c = States.writing();
            c.x.twin(0);
            c.grant(0, 1, 2);
            c.x.decide(0);
            c.pass(Coast.PREPARE, 0, 1);
            return c;
        };
        Edge.mute("LOCK, in doubt about that", same, Coast.LOCK, 0, 1);
        Supplier<Coast> stored = () -> {
            Coast c = States.then(States::committed, x -> write(x, 3)).get();
            c.pass(Coast.COMMIT, 0, 1);
            return c;
        };
        Edge.mute("LOCK, the other is in doubt", stored, Coast.LOCK, 3, 2);
        Coast c = stored.get();
        c.pass(Coast.LOCK, 3, 1);
        c.dueStation(1, "3 0 0 -1 8 -1 1 39600#5");
        Check.due("it grants", c.find(Coast.GRANT, 1, 3), c.x.letters() - 1);
    }

    /** a writer has its own lock */
    private static void lockOfAWriter() {
        Edge.mute("LOCK, collecting", States.then(States::collecting, x -> write(x, 3)), Coast.LOCK, 3, 0);
        Edge.mute("LOCK, preparing", States.then(States::preparing, x -> write(x, 3)), Coast.LOCK, 3, 0);
        Edge.mute("LOCK, both write", States.then(States::writing, x -> write(x, 4)), Coast.LOCK, 0, 4);
        Coast c = States.then(States::writing, x -> write(x, 4)).get();
        c.x.giveUp(4);
        c.pass(Coast.LOCK, 0, 4);
        c.dueStation(4, "5 0 1 -1 5 -1 1");
    }

    /** "granted by it, with what the letter has": its book, size and named one when it was sent */
    private static void grantThatCounts() {
        Coast c = States.collectingTwo();
        c.x.deliver(0);
        Check.due("two of five", c.x.decide(0), false);
        c.pass(Coast.GRANT, 2, 0);
        Check.due("three of five", c.x.decide(0), true);
        Coast d = olderGrant();
        d.pass(Coast.GRANT, 1, 4);
        d.grant(4, 3);
        Check.due("three of five with empty books", d.x.decide(4), true);
        Coast e = olderGrant();
        e.pass(Coast.GRANT, 1, 4);
        e.grant(4, 0);
        Check.due("one of three, an older book beside it", e.x.decide(4), false);
        Coast f = olderGrant();
        f.pass(Coast.LOCK, 4, 1);
        f.x.lose(f.find(Coast.GRANT, 1, 4));
        f.pass(Coast.GRANT, 1, 4);
        f.grant(4, 0);
        Check.due("two of three", f.x.decide(4), true);
    }

    /** Station 1 sent a GRANT to 4 with its empty book, and has since written an entry with 0 and 2. */
    private static Coast olderGrant() {
        Coast c = new Coast();
        write(c.x, 4);
        c.x.twin(1);
        c.pass(Coast.LOCK, 4, 1);
        c.x.unlock(1);
        write(c.x, 0);
        c.grant(0, 1, 2);
        c.x.decide(0);
        for (int s = 1; s < 3; s++) {
            c.pass(Coast.PREPARE, 0, s);
            c.pass(Coast.PREPARED, s, 0);
        }
        for (int s = 1; s < 3; s++) {
            c.pass(Coast.COMMIT, 0, s);
        }
        return c;
    }

    /** "if its open write has that number": not when there is none, nor for a write before */
    private static void grantOfAnotherNumber() {
        Supplier<Coast> sent = States.then(States::writing, x -> x.deliver(0));
        Edge.mute("GRANT, given up", States.then(sent, x -> x.giveUp(0)), Coast.GRANT, 1, 0);
        Supplier<Coast> anew = States.then(States.stopped(0, sent), x -> x.start(0));
        Edge.mute("GRANT, started anew", anew, Coast.GRANT, 1, 0);
        Edge.mute("GRANT of the write before", States.then(anew, x -> write(x, 0)), Coast.GRANT, 1, 0);
        Supplier<Coast> late = () -> {
            Coast c = States.collecting();
            c.x.twin(0);
            c.pass(Coast.LOCK, 0, 3);
            c.x.decide(0);
            for (int s = 1; s < 3; s++) {
                c.pass(Coast.PREPARE, 0, s);
                c.pass(Coast.PREPARED, s, 0);
            }
            return c;
        };
        Edge.mute("GRANT, committed", late, Coast.GRANT, 3, 0);
    }

    /** "and collects" */
    private static void grantWhenItPrepares() {
        Supplier<Coast> late = () -> {
            Coast c = States.collecting();
            c.pass(Coast.LOCK, 0, 3);
            c.x.decide(0);
            return c;
        };
        Edge.mute("GRANT, preparing", late, Coast.GRANT, 3, 0);
    }

    /** "and the sender did not grant yet": what it granted first stays */
    private static void grantOnceMore() {
        Supplier<Coast> twice = States.then(States::writing, x -> {
            x.deliver(0);
            x.twin(3);
            x.deliver(3);
        });
        Edge.mute("GRANT, its twin", twice, Coast.GRANT, 1, 0);
        Supplier<Coast> newer = () -> {
            Coast c = olderGrant();
            c.pass(Coast.GRANT, 1, 4);
            c.pass(Coast.LOCK, 4, 1);
            c.grant(4, 3);
            return c;
        };
        Edge.mute("GRANT, one of a newer book", newer, Coast.GRANT, 1, 4);
    }

    /** "if its lock is that number, and its book is the beginning of the letter's .. and shorter" */
    private static void prepareThatPrepares() {
        Coast c = States.preparing();
        c.pass(Coast.PREPARE, 0, 1);
        c.dueStation(1, "5 0 0 5 -1 -1 1");
        c.dueRow("0:0>3#5 0:0>4#5 2:0>2#5 3:1>0#5");
        // shorter by more than one: an empty book, and the letter's has four entries
        Coast d = States.entries(3);
        write(d.x, 0);
        d.grant(0, 4);
        d.x.decide(0);
        d.pass(Coast.PREPARE, 0, 4);
        d.dueStation(4, "5 0 0 20 -1 -1 1");
        d.pass(Coast.PREPARED, 4, 0);
        d.pass(Coast.COMMIT, 0, 4);
        d.dueStation(4, "2 0 0 -1 -1 -1 1 39600#5 39600#10 39600#15 39600#20");
        // shorter by one, which is a beginning of two entries
        Coast e = States.entries(2);
        write(e.x, 0);
        e.grant(0, 1);
        e.x.decide(0);
        e.pass(Coast.PREPARE, 0, 1);
        e.dueStation(1, "2 0 0 15 -1 -1 1 39600#5 39600#10");
    }

    /** "if its lock is that number" */
    private static void prepareWithoutTheLock() {
        Edge.mute("PREPARE, unlocked", States.then(States::preparing, x -> x.unlock(1)), Coast.PREPARE, 0, 1);
        Edge.mute("PREPARE, started anew", States.then(States.stopped(1, States::preparing), x -> x.start(1)),
                Coast.PREPARE, 0, 1);
        Supplier<Coast> writes = States.then(States::preparing, x -> {
            x.unlock(1);
            write(x, 1);
        });
        Edge.mute("PREPARE, it writes itself", writes, Coast.PREPARE, 0, 1);
        Supplier<Coast> other = () -> {
            Coast c = States.then(States::preparing, x -> x.unlock(1)).get();
            write(c.x, 3);
            c.pass(Coast.LOCK, 3, 1);
            return c;
        };
        Edge.mute("PREPARE, locked by another", other, Coast.PREPARE, 0, 1);
        Supplier<Coast> stored = () -> {
            Coast c = States.preparing();
            c.x.twin(2);
            c.finishOnly(0, 1, 2);
            return c;
        };
        Edge.mute("PREPARE, stored", stored, Coast.PREPARE, 0, 1);
    }

    /** "and shorter": as long is not; another one's entry, and the very same book */
    private static void prepareOfABookThatIsNotShorter() {
        Supplier<Coast> another = () -> {
            Coast c = new Coast();
            write(c.x, 4);
            c.x.twin(1);
            c.grant(4, 1, 3);
            c.x.decide(4);
            c.x.unlock(1);
            write(c.x, 1);
            c.grant(1, 0, 2);
            c.x.decide(1);
            c.finishOnly(1, 0, 2);
            c.pass(Coast.LOCK, 4, 1);
            Check.due("it has the lock", c.x.about(1, Coast.HELD), 9);
            return c;
        };
        Edge.mute("PREPARE, another entry there", another, Coast.PREPARE, 4, 1);
        Supplier<Coast> itself = () -> {
            Coast c = States.writing();
            c.x.twin(0);
            c.grant(0, 1, 2);
            c.x.decide(0);
            c.x.twin(c.find(Coast.PREPARE, 0, 1));
            c.finishOnly(0, 1, 2);
            c.pass(Coast.LOCK, 0, 1);
            Check.due("it has the lock", c.x.about(1, Coast.HELD), 5);
            return c;
        };
        Edge.mute("PREPARE, that entry there", itself, Coast.PREPARE, 0, 1);
    }

    /** "is the beginning of the letter's": a longer one is not */
    private static void prepareOfALongerBook() {
        Supplier<Coast> longer = () -> {
            Coast c = new Coast();
            write(c.x, 4);
            c.x.twin(1);
            c.grant(4, 1, 3);
            c.x.decide(4);
            c.x.unlock(1);
            for (int times = 0; times < 2; times++) {
                write(c.x, 1);
                c.grant(1, 0, 2);
                c.x.decide(1);
                c.finishOnly(1, 0, 2);
            }
            c.pass(Coast.LOCK, 4, 1);
            Check.due("it has the lock", c.x.about(1, Coast.HELD), 9);
            Check.due("its entries", c.x.count(1), 2);
            return c;
        };
        Edge.mute("PREPARE, one entry less", longer, Coast.PREPARE, 4, 1);
    }

    /** "If it is prepared for that number now: it sends back a PREPARED", and nothing else changes */
    private static void prepareOnceMore() {
        Coast c = States.preparing();
        c.x.twin(2);
        c.pass(Coast.PREPARE, 0, 1);
        c.pass(Coast.PREPARE, 0, 1);
        c.dueStation(1, "5 0 0 5 -1 -1 1");
        c.dueRow("0:0>3#5 0:0>4#5 2:0>2#5 3:1>0#5 3:1>0#5");
        Coast d = States.then(States::preparing, x -> x.twin(2)).get();
        d.pass(Coast.PREPARE, 0, 1);
        d.x.stop(1);
        d.x.start(1);
        d.x.lose(4);
        d.pass(Coast.PREPARE, 0, 1);
        Check.due("started anew it answers once more", d.find(Coast.PREPARED, 1, 0), d.x.letters() - 1);
    }

    /** in doubt about another write it has no lock, and is not prepared for that number */
    private static void prepareInOtherDoubt() {
        Supplier<Coast> other = () -> {
            Coast c = States.then(States::preparing, x -> x.unlock(1)).get();
            write(c.x, 3);
            c.grant(3, 1, 4);
            c.x.decide(3);
            c.pass(Coast.PREPARE, 3, 1);
            Check.due("it is in doubt", c.x.about(1, Coast.DOUBT), 8);
            return c;
        };
        Edge.mute("PREPARE, in other doubt", other, Coast.PREPARE, 0, 1);
    }

    /** "that one is prepared": what it waits for is less */
    private static void preparedThatCounts() {
        Coast c = States.allDoubting();
        Check.due("it waits for both", c.x.resend(0), 2);
        c.pass(Coast.PREPARED, 1, 0);
        Check.due("it waits for one", c.x.resend(0), 1);
        c.dueStation(0, "5 0 1 -1 5 5 1");
        Check.due("not all are prepared", c.x.count(0), 0);
    }

    /** "When all of the group are prepared, it COMMITS" */
    private static void preparedThatCommits() {
        Coast c = States.allDoubting();
        c.pass(Coast.PREPARED, 2, 0);
        c.dueStation(0, "5 0 1 -1 5 5 1");
        c.pass(Coast.PREPARED, 1, 0);
        c.dueStation(0, "3 0 1 -1 -1 -1 1 39600#5");
        c.dueRow("0:0>3#5 0:0>4#5 4:0>1#5 4:0>2#5");
        c.dueStation(1, "5 0 0 5 -1 -1 1");
        // of those alone that granted: 3 and 4 are not asked
        Check.due("no COMMIT to others", c.find(Coast.COMMIT, 0, 3), -1);
    }

    /** one that is prepared already, and a write that is committed already */
    private static void preparedOnceMore() {
        Supplier<Coast> twice = States.then(States::allDoubting, x -> {
            x.twin(2);
            x.deliver(2);
        });
        Edge.mute("PREPARED, its twin", twice, Coast.PREPARED, 1, 0);
        Edge.mute("PREPARED, committed", States.then(twice, x -> x.deliver(2)), Coast.PREPARED, 1, 0);
    }

    /** "if its open write has that number and prepares" */
    private static void preparedOfAnotherNumber() {
        Supplier<Coast> givenUp = States.then(States::allDoubting, x -> x.giveUp(0));
        Edge.mute("PREPARED, given up", givenUp, Coast.PREPARED, 1, 0);
        Edge.mute("PREPARED, a new one collects", States.then(givenUp, x -> write(x, 0)), Coast.PREPARED, 1, 0);
        Supplier<Coast> next = () -> {
            Coast c = givenUp.get();
            c.pass(Coast.ABORT, 0, 1);
            c.pass(Coast.ABORT, 0, 2);
            write(c.x, 0);
            c.x.lose(c.find(Coast.LOCK, 0, 3));
            c.grant(0, 1, 2);
            Check.due("decide", c.x.decide(0), true);
            return c;
        };
        Edge.mute("PREPARED, a new one prepares", next, Coast.PREPARED, 1, 0);
        Supplier<Coast> anew = States.then(States.stopped(0, States::allDoubting), x -> x.start(0));
        Edge.mute("PREPARED, started anew", anew, Coast.PREPARED, 1, 0);
    }

    /** "it stores the book, size and named one that it is prepared for, and is not prepared any more" */
    private static void commitThatStores() {
        Coast c = States.committed();
        c.pass(Coast.COMMIT, 0, 1);
        c.dueStation(1, "3 0 0 -1 -1 -1 1 39600#5");
        c.dueStation(2, "5 0 0 5 -1 -1 1");
        Check.due("nothing is sent", c.x.letters(), 3);
    }

    /** "if it is prepared for that number": not any more, or for another one */
    private static void commitOfAnotherNumber() {
        Supplier<Coast> twice = States.then(States::committed, x -> {
            x.twin(2);
            x.deliver(2);
        });
        Edge.mute("COMMIT, its twin", twice, Coast.COMMIT, 0, 1);
        Supplier<Coast> next = () -> {
            Coast c = twice.get();
            c.pass(Coast.COMMIT, 0, 2);
            c.loseAllBut(Coast.COMMIT);
            write(c.x, 2);
            c.grant(2, 1);
            c.x.decide(2);
            c.pass(Coast.PREPARE, 2, 1);
            Check.due("it is in doubt", c.x.about(1, Coast.DOUBT), 7);
            return c;
        };
        Edge.mute("COMMIT, in other doubt", next, Coast.COMMIT, 0, 1);
        Supplier<Coast> locked = () -> {
            Coast c = twice.get();
            write(c.x, 3);
            c.pass(Coast.LOCK, 3, 1);
            return c;
        };
        Edge.mute("COMMIT, locked", locked, Coast.COMMIT, 0, 1);
    }

    /** "if it is prepared for that number, it is not any more" */
    private static void abortOfDoubt() {
        Coast c = States.then(States::doubting, x -> x.giveUp(0)).get();
        c.pass(Coast.ABORT, 0, 1);
        c.dueStation(1, "5 0 0 -1 -1 -1 1");
        Check.due("nothing is sent", c.find(Coast.ABORT, 1, 0), -1);
        Check.due("it may write", write(c.x, 1), 6);
    }

    /** "if its lock is that number, and no open write of its own, it has none" */
    private static void abortOfALock() {
        Coast c = States.then(States::collecting, x -> x.giveUp(0)).get();
        c.dueStation(1, "5 0 0 -1 5 -1 1");
        c.pass(Coast.ABORT, 0, 1);
        c.dueStation(1, "5 0 0 -1 -1 -1 1");
        c.dueStation(2, "5 0 0 -1 5 -1 1");
        Edge.mute("ABORT, not locked", States.then(States::collecting, x -> x.giveUp(0)), Coast.ABORT, 0, 3);
    }

    /** a lock, a doubt or an open write of another number stays */
    private static void abortOfAnotherNumber() {
        Supplier<Coast> late = () -> {
            Coast c = new Coast();
            write(c.x, 4);
            c.x.giveUp(4);
            c.loseAllBut(Coast.ABORT);
            write(c.x, 0);
            c.grant(0, 1, 2);
            return c;
        };
        Edge.mute("ABORT, locked by another", late, Coast.ABORT, 4, 1);
        Edge.mute("ABORT, collecting", late, Coast.ABORT, 4, 0);
        Supplier<Coast> preparing = States.then(late, x -> x.decide(0));
        Edge.mute("ABORT, preparing", preparing, Coast.ABORT, 4, 0);
        Supplier<Coast> doubting = () -> {
            Coast c = preparing.get();
            c.pass(Coast.PREPARE, 0, 1);
            return c;
        };
        Edge.mute("ABORT, in other doubt", doubting, Coast.ABORT, 4, 1);
        // also of a later write of the same station
        Supplier<Coast> again = () -> {
            Coast c = States.then(States::collecting, x -> x.giveUp(0)).get();
            c.x.unlock(1);
            write(c.x, 0);
            c.x.deliver(6);
            Check.due("it has the new lock", c.x.about(1, Coast.HELD), 10);
            return c;
        };
        Edge.mute("ABORT of the write before", again, Coast.ABORT, 0, 1);
    }

    /** "if its book has that number, it sends back a COMMIT": the writer, and any other one */
    private static void askOfAStoredWrite() {
        Coast c = States.committed();
        c.loseAll();
        c.x.ask(1, 0);
        c.x.deliver(0);
        c.dueRow("4:0>1#5");
        c.x.deliver(0);
        c.dueStation(1, "3 0 0 -1 -1 -1 1 39600#5");
        c.x.ask(2, 1);
        c.x.deliver(0);
        c.dueRow("4:1>2#5");
        // though its book has as many entries as asked for, and more
        Coast d = States.then(States::committed, x -> x.deliver(2)).get();
        d.loseAll();
        write(d.x, 0);
        d.grant(0, 1);
        d.x.decide(0);
        d.finishOnly(0, 1);
        d.loseAll();
        Check.due("two entries", d.x.count(0), 2);
        d.x.ask(2, 0);
        d.x.deliver(0);
        d.dueRow("4:0>2#5");
        d.x.ask(2, 1);
        d.x.deliver(1);
        d.dueRow("4:0>2#5 4:1>2#5");
    }

    /** "otherwise, if the number is one of its own .. and not that of its open write" */
    private static void askOfItsOwnWrite() {
        Supplier<Coast> givenUp = () -> {
            Coast c = States.then(States::doubting, x -> x.giveUp(0)).get();
            c.loseAll();
            c.x.ask(1, 0);
            return c;
        };
        Coast c = givenUp.get();
        c.x.deliver(0);
        c.dueRow("5:0>1#5");
        Coast d = States.then(givenUp, x -> write(x, 0)).get();
        d.x.deliver(0);
        d.x.lose(0);
        d.dueRow("0:0>2#10 0:0>3#10 0:0>4#10 5:0>1#5");
        Coast e = new Coast();
        e.collect(4, 0, 2);
        e.x.decide(4);
        e.pass(Coast.PREPARE, 4, 2);
        e.loseAll();
        e.x.stop(4);
        e.x.start(4);
        e.x.ask(2, 4);
        e.x.deliver(0);
        e.dueRow("5:4>2#9");
        // another one's number is not its own
        for (int other : new int[] {2, 3, 4}) {
            Supplier<Coast> asked = () -> {
                Coast f = States.then(States::doubting, x -> x.giveUp(0)).get();
                f.loseAll();
                f.x.ask(1, other);
                return f;
            };
            Edge.mute("ASK, not its own number", asked, Coast.ASK, 1, other);
        }
    }

    /** "and not that of its open write" */
    private static void askOfAnOpenWrite() {
        Edge.mute("ASK, it is open", States.then(States::doubting, x -> x.ask(1, 0)), Coast.ASK, 1, 0);
        Supplier<Coast> known = States.then(States::allDoubting, x -> {
            x.deliver(2);
            x.ask(1, 0);
        });
        Edge.mute("ASK, it knows", known, Coast.ASK, 1, 0);
        Edge.mute("ASK, of a locked one", States.then(States::doubting, x -> x.ask(1, 2)), Coast.ASK, 1, 2);
        Supplier<Coast> both = States.then(States::allDoubting, x -> x.ask(1, 2));
        Edge.mute("ASK, of one in the same doubt", both, Coast.ASK, 1, 2);
    }

    /** "or its book has at least so many entries": one less, as many, one more */
    private static void askOfAsManyEntries() {
        for (int before = 0; before < 2; before++) {
            int places = before;
            for (int more = 0; more < 3; more++) {
                int written = more;
                Supplier<Coast> asked = () -> overtaken(places, written);
                Check.due("entries of 0", asked.get().x.count(0), places + written);
                if (more == 0) {
                    Edge.mute("ASK, one entry less", asked, Coast.ASK, 4, 0);
                } else {
                    Coast c = asked.get();
                    c.pass(Coast.ASK, 4, 0);
                    c.dueRow("5:0>4#8");
                    c.pass(Coast.ABORT, 0, 4);
                    Check.due("its doubt has ended", c.x.about(4, Coast.DOUBT), Coast.NONE);
                }
            }
        }
    }

    /** Station 4 asks 0 about a write of 3 behind so many entries; 0 has since written some more without them. */
    private static Coast overtaken(int places, int more) {
        Coast c = new Coast();
        for (int k = 0; k < places; k++) {
            c.written(0, 1, 2, 3, 4);
        }
        c.collect(3, 4, 0);
        c.x.decide(3);
        c.pass(Coast.PREPARE, 3, 4);
        c.loseAll();
        c.x.unlock(0);
        for (int k = 0; k < more; k++) {
            c.written(0, 1, 2);
        }
        c.x.ask(4, 0);
        return c;
    }

    /** "with how many entries the book has that the sender is prepared for": when it was sent */
    private static void askCountsWhatItWasSentFor() {
        Supplier<Coast> late = () -> {
            Coast c = overtaken(0, 0);
            c.x.twin(0);
            c.x.stop(3);
            c.x.start(3);
            c.x.lose(0);
            c.x.ask(4, 3);
            c.x.deliver(1);
            c.pass(Coast.ABORT, 3, 4);
            Check.due("its doubt has ended", c.x.about(4, Coast.DOUBT), Coast.NONE);
            return c;
        };
        Edge.mute("ASK, sent before", late, Coast.ASK, 4, 0);
        Coast c = overtaken(1, 1);
        c.x.twin(0);
        c.x.lose(0);
        c.pass(Coast.ASK, 4, 0);
        c.dueRow("5:0>4#8");
    }
}
