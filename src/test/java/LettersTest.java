/** Promises 12 to 16, and what a letter of each kind does when it is delivered. */
public final class LettersTest {
    private LettersTest() {
    }

    public static void main(String[] args) {
        row();
        letter();
        twin();
        deliverRefused();
        deliverLock();
        deliverGrant();
        deliverPrepare();
        deliverPrepareOfAnotherBook();
        deliverPrepareOfItsOwnBook();
        deliverPrepared();
        deliverPreparedWithoutRoom();
        deliverCommit();
        deliverAbort();
        deliverAskOfTheWriter();
        deliverAskOfOthers();
        Check.end();
    }

    private static void row() {
        Coast c = new Coast();
        Check.due("letters()", c.x.letters(), 0);
        Check.dueThrow("lose(0), none", IndexOutOfBoundsException.class, () -> c.x.lose(0));
        c.x.write(0, 0, 0, 0);
        Check.due("letters()", c.x.letters(), 4);
        Check.dueThrow("lose(4)", IndexOutOfBoundsException.class, () -> c.x.lose(4));
        Check.dueThrow("lose(-1)", IndexOutOfBoundsException.class, () -> c.x.lose(-1));
        c.x.lose(1);
        c.dueRow("0:0>1#5 0:0>3#5 0:0>4#5");
        c.x.lose(2);
        c.dueRow("0:0>1#5 0:0>3#5");
        c.x.deliver(0);
        c.dueRow("0:0>3#5 1:1>0#5");
        c.dueStation(2, "5 0 0 -1 -1 -1 1");
        c.x.lose(0);
        c.x.lose(0);
        Check.due("letters()", c.x.letters(), 0);
    }

    private static void letter() {
        Coast c = new Coast();
        c.x.write(3, 0, 0, 0);
        int[] want = {0, 3, 4, 8};
        for (int what = 0; what < 4; what++) {
            Check.due("letter(3, " + what + ")", c.x.letter(3, what), want[what]);
        }
        for (int what : new int[] {-1, 4, Integer.MIN_VALUE, Integer.MAX_VALUE}) {
            Check.dueThrow("letter(0, " + what + ")", IllegalArgumentException.class, () -> c.x.letter(0, what));
        }
        for (int i : new int[] {-1, 4, 40, 41, Integer.MIN_VALUE, Integer.MAX_VALUE}) {
            Check.dueThrow("letter(" + i + ", 9)", IndexOutOfBoundsException.class, () -> c.x.letter(i, 9));
        }
    }

    private static void twin() {
        Coast c = new Coast();
        Check.dueThrow("twin(0), none", IndexOutOfBoundsException.class, () -> c.x.twin(0));
        c.x.write(0, 0, 0, 0);
        c.x.twin(1);
        c.dueRow("0:0>1#5 0:0>2#5 0:0>3#5 0:0>4#5 0:0>2#5");
        Check.dueThrow("twin(5)", IndexOutOfBoundsException.class, () -> c.x.twin(5));
        c.fill(40);
        Check.dueThrow("twin, no room", UnsupportedOperationException.class, () -> c.x.twin(0));
        Check.dueThrow("twin(40), no room", IndexOutOfBoundsException.class, () -> c.x.twin(40));
        Check.due("letters()", c.x.letters(), 40);
        // the twin of a grant and of a prepare has its content, whatever becomes of the first
        Coast d = new Coast();
        d.x.write(0, 0, 0, 99);
        d.pass(Coast.LOCK, 0, 1);
        d.x.twin(d.find(Coast.GRANT, 1, 0));
        d.x.lose(d.find(Coast.GRANT, 1, 0));
        d.pass(Coast.GRANT, 1, 0);
        d.grant(0, 2);
        d.x.decide(0);
        d.x.twin(d.find(Coast.PREPARE, 0, 1));
        d.x.lose(d.find(Coast.PREPARE, 0, 1));
        d.finishPrepared(0, 1, 2);
        d.dueStation(1, "3 0 0 -1 -1 -1 1 39600#5");
    }

    private static void deliverRefused() {
        Coast c = new Coast();
        Check.dueThrow("deliver(0), none", IndexOutOfBoundsException.class, () -> c.x.deliver(0));
        c.x.write(0, 0, 0, 0);
        for (int i : new int[] {-1, 4, Integer.MIN_VALUE, Integer.MAX_VALUE}) {
            Check.dueThrow("deliver(" + i + ")", IndexOutOfBoundsException.class, () -> c.x.deliver(i));
        }
        c.x.stop(2);
        Check.dueThrow("deliver to a stopped one", IllegalStateException.class, () -> c.x.deliver(1));
        for (int s = 0; s < 4; s++) {
            c.x.cable(s, 4, false);
        }
        Check.dueThrow("deliver to another piece", IllegalStateException.class, () -> c.x.deliver(3));
        c.dueRow("0:0>1#5 0:0>2#5 0:0>3#5 0:0>4#5");
        c.dueStation(2, "5 0 0 -1 -1 -1 0");
        c.dueStation(4, "5 0 0 -1 -1 -1 1");
        c.x.stop(0);
        Check.due("deliver from a stopped one", c.x.deliver(0), 0);
        c.x.start(2);
        c.x.cable(4, 2, true);
        Check.due("deliver to a started one", c.x.deliver(0), 0);
        Check.due("deliver over a mended cable", c.x.deliver(1), 0);
    }

    private static void deliverLock() {
        Coast c = new Coast();
        c.x.write(0, 0, 0, 0);
        c.x.write(1, 0, 0, 0);
        c.pass(Coast.LOCK, 0, 1);
        Check.due("a writer keeps its own lock", c.x.about(1, Coast.HELD), 6);
        c.pass(Coast.LOCK, 0, 2);
        c.dueStation(2, "5 0 0 -1 5 -1 1");
        c.pass(Coast.LOCK, 1, 2);
        Check.due("a lock is not changed", c.x.about(2, Coast.HELD), 5);
        Check.due("nothing is granted to the second", c.find(Coast.GRANT, 2, 1), -1);
        c.loseAll();
        c.x.resend(0);
        c.pass(Coast.LOCK, 0, 2);
        c.dueRow("0:0>1#5 0:0>3#5 0:0>4#5 1:2>0#5");
        c.pass(Coast.GRANT, 2, 0);
        c.grant(0, 3);
        c.x.decide(0);
        c.pass(Coast.PREPARE, 0, 2);
        c.loseAll();
        c.x.resend(1);
        c.pass(Coast.LOCK, 1, 2);
        c.dueStation(2, "5 0 0 5 -1 -1 1");
        Check.due("one in doubt grants nothing", c.find(Coast.GRANT, 2, 1), -1);
        Coast d = new Coast();
        d.x.write(0, 0, 0, 0);
        d.fill(40);
        Check.due("deliver with 40 letters", d.x.deliver(0), 0);
        Check.due("letters()", d.x.letters(), 40);
        Check.due("the answer is the last", d.x.letter(39, 0), Coast.GRANT);
    }

    private static void deliverGrant() {
        Coast c = new Coast();
        c.x.write(3, 0, 0, 99);
        c.pass(Coast.LOCK, 3, 2);
        c.x.twin(c.find(Coast.GRANT, 2, 3));
        c.pass(Coast.GRANT, 2, 3);
        c.pass(Coast.GRANT, 2, 3);
        Check.due("who grants twice counts once", c.x.decide(3), false);
        Check.due("what waits", c.x.resend(3), 3);
        // a grant for an older write, or when it prepares, does nothing
        Coast d = new Coast();
        d.x.write(3, 0, 0, 99);
        d.pass(Coast.LOCK, 3, 2);
        d.pass(Coast.LOCK, 3, 1);
        d.x.stop(3);
        d.x.start(3);
        d.x.write(3, 0, 0, 99);
        d.pass(Coast.GRANT, 2, 3);
        d.pass(Coast.GRANT, 1, 3);
        Check.due("grants of the older write", d.x.decide(3), false);
        d.loseAll();
        Check.due("what waits", d.x.resend(3), 4);
        d.grant(3, 0, 4);
        d.x.unlock(1);
        d.pass(Coast.LOCK, 3, 1);
        Check.due("decide(3)", d.x.decide(3), true);
        d.pass(Coast.GRANT, 1, 3);
        d.finishPrepared(3, 0, 4);
        d.dueStation(3, "3 0 2 -1 -1 -1 1 39600#13");
        d.dueStation(1, "5 0 0 -1 13 -1 1");
        // what is granted is the book of the time when it was granted
        Coast e = new Coast();
        e.x.write(4, 0, 0, 99);
        e.pass(Coast.LOCK, 4, 1);
        e.x.unlock(1);
        e.x.write(0, 0, 0, 99);
        e.grant(0, 1, 2);
        e.x.decide(0);
        for (int s = 1; s < 3; s++) {
            e.pass(Coast.PREPARE, 0, s);
            e.pass(Coast.PREPARED, s, 0);
        }
        e.pass(Coast.COMMIT, 0, 1);
        Check.due("count(1)", e.x.count(1), 1);
        e.pass(Coast.GRANT, 1, 4);
        e.grant(4, 3);
        Check.due("three of five with empty books", e.x.decide(4), true);
    }

    private static void deliverPrepare() {
        Coast c = new Coast();
        c.collect(0, 1, 2);
        c.x.decide(0);
        c.x.twin(c.find(Coast.PREPARE, 0, 1));
        c.pass(Coast.PREPARE, 0, 1);
        c.dueStation(1, "5 0 0 5 -1 -1 1");
        Check.due("its answer", c.find(Coast.PREPARED, 1, 0), c.x.letters() - 1);
        c.x.lose(c.x.letters() - 1);
        c.pass(Coast.PREPARE, 0, 1);
        Check.due("its answer once more", c.find(Coast.PREPARED, 1, 0), c.x.letters() - 1);
        c.dueStation(1, "5 0 0 5 -1 -1 1");
        c.x.unlock(2);
        c.pass(Coast.PREPARE, 0, 2);
        c.dueStation(2, "5 0 0 -1 -1 -1 1");
        Check.due("no answer without the lock", c.find(Coast.PREPARED, 2, 0), -1);
        c.x.resend(0);
        c.x.write(2, 0, 0, 0);
        c.pass(Coast.PREPARE, 0, 2);
        c.dueStation(2, "5 0 1 -1 7 7 1");
    }

    private static void deliverPrepareOfAnotherBook() {
        // 1 granted with an empty book, then wrote with others, and is locked by the first write again
        Coast c = new Coast();
        c.x.write(4, 0, 0, 99);
        c.x.twin(c.find(Coast.LOCK, 4, 1));
        c.grant(4, 1, 3);
        c.x.decide(4);
        c.x.unlock(1);
        c.x.write(1, 0, 0, 99);
        c.grant(1, 0, 2);
        c.x.decide(1);
        for (int s : new int[] {0, 2}) {
            c.pass(Coast.PREPARE, 1, s);
            c.pass(Coast.PREPARED, s, 1);
        }
        c.pass(Coast.LOCK, 4, 1);
        Check.due("locked again", c.x.about(1, Coast.HELD), 9);
        c.pass(Coast.PREPARE, 4, 1);
        c.dueStation(1, "3 0 1 -1 9 -1 1 39600#6");
        Check.due("no answer, as its book is not shorter", c.find(Coast.PREPARED, 1, 4), -1);
    }

    private static void deliverPrepareOfItsOwnBook() {
        // twins of letters of a write that 1 has stored already
        Coast c = new Coast();
        c.x.write(0, 0, 0, 99);
        c.x.twin(c.find(Coast.LOCK, 0, 1));
        c.grant(0, 1, 2);
        c.x.decide(0);
        c.x.twin(c.find(Coast.PREPARE, 0, 1));
        for (int s = 1; s < 3; s++) {
            c.pass(Coast.PREPARE, 0, s);
            c.pass(Coast.PREPARED, s, 0);
        }
        c.pass(Coast.COMMIT, 0, 1);
        c.pass(Coast.LOCK, 0, 1);
        c.pass(Coast.PREPARE, 0, 1);
        c.dueStation(1, "3 0 0 -1 5 -1 1 39600#5");
        Check.due("no answer, as its book is not shorter", c.find(Coast.PREPARED, 1, 0), -1);
    }

    private static void deliverPrepared() {
        Coast c = new Coast();
        c.collect(0, 1, 2);
        c.x.decide(0);
        c.pass(Coast.PREPARE, 0, 1);
        c.x.twin(c.find(Coast.PREPARED, 1, 0));
        c.pass(Coast.PREPARED, 1, 0);
        c.pass(Coast.PREPARED, 1, 0);
        Check.due("the same one twice", c.x.count(0), 0);
        c.pass(Coast.PREPARE, 0, 2);
        c.x.twin(c.find(Coast.PREPARED, 2, 0));
        c.pass(Coast.PREPARED, 2, 0);
        c.dueStation(0, "3 0 1 -1 -1 -1 1 39600#5");
        int letters = c.x.letters();
        c.pass(Coast.PREPARED, 2, 0);
        Check.due("after the commit nothing is sent", c.x.letters(), letters - 1);
        // of an older write of the same station
        Coast d = new Coast();
        d.collect(0, 1, 2);
        d.x.decide(0);
        d.pass(Coast.PREPARE, 0, 1);
        d.pass(Coast.PREPARE, 0, 2);
        d.x.giveUp(0);
        d.pass(Coast.ABORT, 0, 1);
        d.pass(Coast.ABORT, 0, 2);
        d.loseAllBut(Coast.PREPARED);
        d.collect(0, 1, 2);
        Check.due("decide(0)", d.x.decide(0), true);
        d.pass(Coast.PREPARED, 1, 0);
        d.pass(Coast.PREPARED, 2, 0);
        d.dueStation(0, "5 0 2 -1 10 10 1");
    }

    private static void deliverPreparedWithoutRoom() {
        Coast c = new Coast();
        c.collect(0, 1, 2, 3, 4);
        c.x.decide(0);
        for (int s = 1; s < 5; s++) {
            c.pass(Coast.PREPARE, 0, s);
        }
        for (int s = 1; s < 4; s++) {
            c.pass(Coast.PREPARED, s, 0);
        }
        c.fill(38);
        Check.dueThrow("the last prepared with 38 letters", UnsupportedOperationException.class,
                () -> c.x.deliver(37));
        c.dueStation(0, "5 0 1 -1 5 5 1");
        Check.due("letters()", c.x.letters(), 38);
        Check.due("what waits", resendKind(c), Coast.PREPARE);
        c.x.lose(38);
        c.x.lose(0);
        Check.due("with 37 letters", c.x.deliver(36), Coast.PREPARED);
        Check.due("letters()", c.x.letters(), 40);
        c.dueStation(0, "5 0 1 -1 -1 -1 1 39600#5");
        Check.due("the last letter", c.x.letter(39, 2), 4);

        Coast d = new Coast();
        d.collect(0, 1, 2);
        d.x.decide(0);
        d.pass(Coast.PREPARE, 0, 1);
        d.pass(Coast.PREPARE, 0, 2);
        d.loseAllBut(Coast.PREPARED);
        d.fill(40);
        Check.due("not the last one, with 40 letters", d.x.deliver(d.find(Coast.PREPARED, 1, 0)), Coast.PREPARED);
        Check.due("the last one, with 39 letters", d.x.deliver(d.find(Coast.PREPARED, 2, 0)), Coast.PREPARED);
        Check.due("letters()", d.x.letters(), 40);
    }

    private static int resendKind(Coast c) {
        Check.due("resend(0)", c.x.resend(0), 1);
        return c.x.letter(c.x.letters() - 1, 0);
    }

    private static void deliverCommit() {
        Coast c = new Coast();
        c.collect(0, 1, 2);
        c.x.decide(0);
        for (int s = 1; s < 3; s++) {
            c.pass(Coast.PREPARE, 0, s);
            c.pass(Coast.PREPARED, s, 0);
        }
        c.x.twin(c.find(Coast.COMMIT, 0, 1));
        c.x.stop(1);
        c.x.start(1);
        c.pass(Coast.COMMIT, 0, 1);
        c.dueStation(1, "3 0 0 -1 -1 -1 1 39600#5");
        c.x.write(1, 0, 0, 0);
        c.pass(Coast.COMMIT, 0, 1);
        c.dueStation(1, "3 0 1 -1 6 6 1 39600#5");
        Check.due("nothing is sent back", c.find(Coast.COMMIT, 1, 0), -1);
        // 2 is prepared for the write of 0, then, when it has stored that, for the one of 1
        c.x.twin(c.find(Coast.COMMIT, 0, 2));
        c.pass(Coast.COMMIT, 0, 2);
        c.grant(1, 2);
        c.x.decide(1);
        c.pass(Coast.PREPARE, 1, 2);
        c.pass(Coast.COMMIT, 0, 2);
        c.dueStation(2, "3 0 0 6 -1 -1 1 39600#5");
    }

    private static void deliverAbort() {
        Coast c = new Coast();
        c.collect(0, 1, 2, 3);
        c.x.decide(0);
        c.pass(Coast.PREPARE, 0, 1);
        c.x.unlock(3);
        c.x.write(3, 0, 0, 0);
        c.x.giveUp(0);
        c.pass(Coast.ABORT, 0, 1);
        c.dueStation(1, "5 0 0 -1 -1 -1 1");
        c.pass(Coast.ABORT, 0, 2);
        c.dueStation(2, "5 0 0 -1 -1 -1 1");
        c.pass(Coast.ABORT, 0, 3);
        c.dueStation(3, "5 0 1 -1 8 8 1");
        c.pass(Coast.LOCK, 3, 4);
        c.pass(Coast.ABORT, 0, 4);
        c.dueStation(4, "5 0 0 -1 8 -1 1");
        Coast d = new Coast();
        d.x.write(1, 0, 0, 0);
        d.pass(Coast.LOCK, 1, 4);
        d.x.giveUp(1);
        d.pass(Coast.ABORT, 1, 4);
        d.dueStation(4, "5 0 0 -1 -1 -1 1");
        d.loseAll();
        d.x.write(0, 0, 0, 0);
        d.x.giveUp(0);
        d.collect(1, 2, 3);
        d.x.decide(1);
        d.pass(Coast.PREPARE, 1, 2);
        d.pass(Coast.ABORT, 0, 2);
        d.dueStation(2, "5 0 0 11 -1 -1 1");
    }

    private static void deliverAskOfTheWriter() {
        Coast c = new Coast();
        c.collect(0, 1, 2);
        c.x.decide(0);
        c.pass(Coast.PREPARE, 0, 1);
        c.loseAll();
        c.x.ask(1, 0);
        Check.due("ask of an open write", c.x.deliver(0), Coast.ASK);
        c.dueRow("");
        c.x.stop(0);
        c.x.start(0);
        c.x.ask(1, 0);
        c.x.deliver(0);
        c.dueRow("5:0>1#5");
        c.x.write(0, 0, 0, 0);
        c.loseAll();
        c.x.ask(1, 0);
        c.x.deliver(0);
        c.dueRow("5:0>1#5");
        c.x.deliver(0);
        c.dueStation(1, "5 0 0 -1 -1 -1 1");
        Coast d = new Coast();
        d.collect(0, 1, 2);
        d.x.decide(0);
        for (int s = 1; s < 3; s++) {
            d.pass(Coast.PREPARE, 0, s);
            d.pass(Coast.PREPARED, s, 0);
        }
        d.loseAll();
        d.x.ask(1, 0);
        d.x.deliver(0);
        d.dueRow("4:0>1#5");
        d.x.deliver(0);
        d.dueStation(1, "3 0 0 -1 -1 -1 1 39600#5");
        d.x.ask(2, 1);
        d.x.deliver(0);
        d.dueRow("4:1>2#5");
    }

    private static void deliverAskOfOthers() {
        // 4 is prepared for a write of 3 that the others overtake
        Coast c = new Coast();
        c.collect(3, 4, 0);
        c.x.decide(3);
        c.pass(Coast.PREPARE, 3, 4);
        c.loseAll();
        c.x.ask(4, 0);
        c.x.deliver(0);
        c.dueRow("");
        c.x.unlock(0);
        c.written(0, 1, 2);
        c.x.ask(4, 1);
        c.x.deliver(0);
        c.dueRow("5:1>4#8");
        c.x.ask(4, 3);
        c.x.deliver(1);
        c.dueRow("5:1>4#8");
        c.x.deliver(0);
        c.dueStation(4, "5 0 0 -1 -1 -1 1");
        // as many entries as asked for are enough, one less is not
        Coast d = new Coast();
        d.written(0, 1, 2, 3, 4);
        d.collect(3, 4, 0);
        d.x.decide(3);
        d.pass(Coast.PREPARE, 3, 4);
        d.loseAll();
        d.x.ask(4, 1);
        d.x.deliver(0);
        d.dueRow("");
        d.x.unlock(0);
        d.written(0, 1, 2);
        d.x.ask(4, 1);
        d.x.deliver(0);
        d.dueRow("5:1>4#8");
    }
}
