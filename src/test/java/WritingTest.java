import java.util.NoSuchElementException;

/** Promises 1 and 3 to 7: a new object, and the calls of the station that writes. */
public final class WritingTest {
    private WritingTest() {
    }

    public static void main(String[] args) {
        newObject();
        write();
        writeRefused();
        writeWithoutRoom();
        withdraw();
        withdrawRefused();
        decideByMajority();
        decideByHalf();
        decideTakesTheNewest();
        decideAlone();
        decideRefused();
        decideWithoutRoom();
        giveUp();
        resend();
        Check.end();
    }

    private static void newObject() {
        Coast c = new Coast();
        Check.due("letters()", c.x.letters(), 0);
        for (int s = 0; s < 5; s++) {
            c.dueStation(s, "5 0 0 -1 -1 -1 1");
            for (int t = 0; t < 5; t++) {
                if (s != t) {
                    Check.due("cable is there", c.x.cable(s, t, true), false);
                }
            }
        }
        Coast other = new Coast();
        c.x.write(0, 0, 0, 0);
        Check.due("letters() of another object", other.x.letters(), 0);
    }

    private static void write() {
        Coast c = new Coast();
        Check.due("write(2, ..)", c.x.write(2, 1, 10, 20), 7);
        c.dueRow("0:2>0#7 0:2>1#7 0:2>3#7 0:2>4#7");
        c.dueStation(2, "5 0 1 -1 7 7 1");
        c.x.giveUp(2);
        Check.due("write(2, ..) again", c.x.write(2, 3, 99, 0), 12);
        Check.due("write(0, ..)", c.x.write(0, 0, 0, 0), 5);
        Check.due("write(4, ..)", c.x.write(4, 3, 99, 99), 9);
        c.dueStation(2, "5 0 2 -1 12 12 1");
        Coast d = new Coast();
        d.noticed(3, 99, 98, 1, 0, 2);
        Check.due("entry(1, 0)", d.x.entry(1, 0, false), 3 + 4 * 99 + 400 * 98);
        Check.due("entry(1, 0)", d.x.entry(1, 0, true), 6);
    }

    private static void writeRefused() {
        Coast c = new Coast();
        c.x.stop(0);
        for (int s : new int[] {-1, 5, Integer.MIN_VALUE, Integer.MAX_VALUE}) {
            Check.dueThrow("write(" + s + ", 9, ..)", IndexOutOfBoundsException.class, () -> c.x.write(s, 9, 0, 0));
        }
        // the station is stopped too, and the argument comes first
        int[][] bad = {{-1, 0, 0}, {4, 0, 0}, {0, -1, 0}, {0, 100, 0}, {0, 0, -1}, {0, 0, 100}};
        for (int[] b : bad) {
            Check.dueThrow("write(0, bad)", IllegalArgumentException.class, () -> c.x.write(0, b[0], b[1], b[2]));
        }
        Check.dueThrow("write, stopped", IllegalStateException.class, () -> c.x.write(0, 0, 0, 0));
        c.dueStation(0, "5 0 0 -1 -1 -1 0");
        c.x.write(1, 0, 0, 0);
        Check.dueThrow("write, open", IllegalStateException.class, () -> c.x.write(1, 0, 0, 0));
        c.pass(Coast.LOCK, 1, 2);
        Check.dueThrow("write, locked", IllegalStateException.class, () -> c.x.write(2, 0, 0, 0));
        c.pass(Coast.GRANT, 2, 1);
        c.grant(1, 3);
        c.x.decide(1);
        c.pass(Coast.PREPARE, 1, 2);
        Check.dueThrow("write, in doubt", IllegalStateException.class, () -> c.x.write(2, 0, 0, 0));
        c.dueStation(2, "5 0 0 6 -1 -1 1");
    }

    private static void writeWithoutRoom() {
        Coast c = new Coast();
        c.x.write(0, 0, 0, 0);
        c.fill(36);
        Check.due("write with 36 letters", c.x.write(1, 0, 0, 0), 6);
        c.x.lose(39);
        c.x.lose(38);
        c.x.lose(37);
        Check.dueThrow("write with 37 letters", UnsupportedOperationException.class, () -> c.x.write(2, 0, 0, 0));
        Check.dueThrow("write, locked, no room", IllegalStateException.class, () -> c.x.write(1, 0, 0, 0));
        Check.due("letters()", c.x.letters(), 37);
        c.dueStation(2, "5 0 0 -1 -1 -1 1");

        Coast d = Coast.alone();
        for (int k = 3; k < 16; k++) {
            d.written(0);
        }
        Check.due("count(0)", d.x.count(0), 16);
        Check.dueThrow("write, book full", UnsupportedOperationException.class, () -> d.x.write(0, 0, 0, 0));
        Check.dueThrow("withdraw, book full", UnsupportedOperationException.class, () -> d.x.withdraw(0, 15));
        Check.due("began", d.x.about(0, Coast.BEGAN), 16);
        d.x.stop(0);
        Check.dueThrow("write, book full, stopped", IllegalStateException.class, () -> d.x.write(0, 0, 0, 0));
    }

    private static void withdraw() {
        Coast c = new Coast();
        c.written(0, 1, 2);
        c.written(0, 1, 2);
        Check.due("withdraw(1, 1)", c.x.withdraw(1, 1), 6);
        c.dueRow("0:1>0#6 0:1>2#6 0:1>3#6 0:1>4#6");
        c.dueStation(1, "3 0 1 -1 6 6 1 39600#5 39600#10");
        c.grant(1, 0, 2);
        c.finish(1, 0, 2);
        c.dueStation(2, "3 0 0 -1 -1 -1 1 39600#5 39600#10 -2#6");
        Check.due("withdraw(2, 0)", c.x.withdraw(2, 0), 7);
    }

    private static void withdrawRefused() {
        Coast c = new Coast();
        c.written(0, 1, 2);
        c.written(0, 1, 2);
        c.withdrawn(0, 0, 1, 2);
        Check.dueThrow("withdraw(5, ..)", IndexOutOfBoundsException.class, () -> c.x.withdraw(5, 0));
        Check.dueThrow("withdraw(-1, ..)", IndexOutOfBoundsException.class, () -> c.x.withdraw(-1, 99));
        for (int k : new int[] {-1, 3, 16, Integer.MIN_VALUE, Integer.MAX_VALUE, 0, 2}) {
            Check.dueThrow("withdraw(0, " + k + ")", NoSuchElementException.class, () -> c.x.withdraw(0, k));
        }
        Check.dueThrow("withdraw, empty book", NoSuchElementException.class, () -> c.x.withdraw(4, 0));
        c.x.stop(1);
        Check.dueThrow("withdraw, stopped and withdrawn", NoSuchElementException.class, () -> c.x.withdraw(1, 0));
        Check.dueThrow("withdraw, stopped", IllegalStateException.class, () -> c.x.withdraw(1, 1));
        c.x.withdraw(0, 1);
        Check.dueThrow("withdraw, open", IllegalStateException.class, () -> c.x.withdraw(0, 1));
        c.fill(37);
        Check.dueThrow("withdraw, no room", UnsupportedOperationException.class, () -> c.x.withdraw(2, 1));
        Check.due("letters()", c.x.letters(), 37);
        c.x.lose(0);
        // the place is withdrawn only where a book has the withdrawal
        Check.due("withdraw(2, 1)", c.x.withdraw(2, 1), 7);
    }

    private static void decideByMajority() {
        Coast c = new Coast();
        c.collect(3, 4);
        Check.due("two of five", c.x.decide(3), false);
        Check.due("decide changes nothing", c.x.letters(), 3);
        c.dueStation(3, "5 0 1 -1 8 8 1");
        c.grant(3, 2);
        c.loseAll();
        Check.due("three of five", c.x.decide(3), true);
        c.dueRow("2:3>2#8 2:3>4#8");
        // the writer keeps lock and open write and is not in doubt itself
        c.dueStation(3, "5 0 1 -1 8 8 1");
        c.pass(Coast.PREPARE, 3, 4);
        c.pass(Coast.PREPARED, 4, 3);
        c.pass(Coast.PREPARE, 3, 2);
        Check.due("not all are prepared", c.x.count(3), 0);
        c.pass(Coast.PREPARED, 2, 3);
        c.dueRow("4:3>2#8 4:3>4#8");
        c.dueStation(3, "3 2 1 -1 -1 -1 1 39600#8");
        c.dueStation(2, "5 0 0 8 -1 -1 1");
        c.pass(Coast.COMMIT, 3, 2);
        c.dueStation(2, "3 2 0 -1 -1 -1 1 39600#8");
    }

    private static void decideByHalf() {
        Coast c = new Coast();
        c.written(1, 2, 3, 4);
        c.dueStation(4, "4 1 0 -1 -1 -1 1 39600#6");
        c.collect(2, 3, 0);
        Check.due("half without the named one", c.x.decide(2), false);
        c.x.giveUp(2);
        c.loseAll();
        c.x.unlock(0);
        c.x.unlock(3);
        c.collect(0, 4, 1);
        Check.due("half with the named one, asked by one without the entry", c.x.decide(0), true);
        c.loseAll();
        c.x.resend(0);
        c.pass(Coast.PREPARE, 0, 1);
        c.pass(Coast.PREPARED, 1, 0);
        c.pass(Coast.PREPARE, 0, 4);
        c.pass(Coast.PREPARED, 4, 0);
        c.dueStation(0, "3 0 1 -1 -1 -1 1 39600#6 39600#5");
        Check.due("a fifth of five is no half", new Coast().x.allowed(1), false);
    }

    private static void decideTakesTheNewest() {
        Coast c = new Coast();
        c.written(0, 1, 2);
        // three granted, but only holders count
        c.collect(3, 4, 1);
        Check.due("one of three", c.x.decide(3), false);
        c.grant(3, 2);
        c.loseAll();
        Check.due("two of three", c.x.decide(3), true);
        c.dueRow("2:3>1#8 2:3>2#8 2:3>4#8");
        c.finishPrepared(3, 1, 2, 4);
        c.dueStation(4, "4 1 0 -1 -1 -1 1 39600#5 39600#8");
        c.dueStation(3, "4 1 1 -1 -1 -1 1 39600#5 39600#8");
        decideWithAnOldGrant();
    }

    private static void decideWithAnOldGrant() {
        Coast c = new Coast();
        c.x.write(4, 0, 0, 0);
        c.grant(4, 0);
        c.x.unlock(0);
        c.x.write(2, 0, 0, 0);
        for (int other : new int[] {0, 1, 3}) {
            c.grant(2, other);
        }
        c.x.decide(2);
        c.finishPrepared(2, 0, 1, 3);
        c.x.resend(4);
        c.grant(4, 2, 3);
        Check.due("half of four, their named one granted an older book", c.x.decide(4), false);
        c.grant(4, 1);
        Check.due("three of four", c.x.decide(4), true);
        c.dueRow("2:4>0#9 2:4>1#9 2:4>2#9 2:4>3#9");
        c.pass(Coast.PREPARE, 4, 0);
        Check.due("a station without the lock does not prepare", c.x.about(0, Coast.DOUBT), Coast.NONE);
        Check.due("letters()", c.x.letters(), 3);
    }

    private static void decideAlone() {
        Coast c = new Coast();
        c.written(0, 1, 2);
        c.written(0, 1);
        c.x.write(1, 0, 0, 0);
        Check.due("half without the named one", c.x.decide(1), false);
        c.x.giveUp(1);
        c.loseAll();
        c.x.write(0, 1, 2, 3);
        c.fill(40);
        Check.due("half with the named one", c.x.decide(0), true);
        Check.due("no letter more", c.x.letters(), 40);
        c.dueStation(0, "1 0 3 -1 -1 -1 1 39600#5 39600#10 1209#15");
        Check.due("alone, its own size", c.x.allowed(1), true);
    }

    private static void decideRefused() {
        Coast c = new Coast();
        Check.dueThrow("decide(-1)", IndexOutOfBoundsException.class, () -> c.x.decide(-1));
        Check.dueThrow("decide(5)", IndexOutOfBoundsException.class, () -> c.x.decide(5));
        Check.dueThrow("decide, no write", IllegalStateException.class, () -> c.x.decide(0));
        c.collect(0, 1, 2);
        Check.dueThrow("decide, another's write", IllegalStateException.class, () -> c.x.decide(1));
        c.x.decide(0);
        Check.dueThrow("decide, preparing", IllegalStateException.class, () -> c.x.decide(0));
        c.x.stop(0);
        Check.dueThrow("decide, stopped", IllegalStateException.class, () -> c.x.decide(0));
        c.x.start(0);
        Check.dueThrow("decide, started anew", IllegalStateException.class, () -> c.x.decide(0));
    }

    private static void decideWithoutRoom() {
        Coast c = new Coast();
        c.collect(0, 1, 2);
        c.fill(39);
        Check.dueThrow("decide with 39 letters", UnsupportedOperationException.class, () -> c.x.decide(0));
        Check.due("letters()", c.x.letters(), 39);
        c.x.lose(0);
        Check.due("decide with 38 letters", c.x.decide(0), true);

        Coast d = new Coast();
        d.collect(0, 1);
        d.fill(40);
        Check.due("may not go on, no room needed", d.x.decide(0), false);

        Coast e = Coast.alone();
        for (int k = 3; k < 16; k++) {
            e.written(0);
        }
        e.collect(4, 0);
        Check.dueThrow("a 17th entry", UnsupportedOperationException.class, () -> e.x.decide(4));
        e.dueStation(4, "5 0 1 -1 9 9 1");
    }

    private static void giveUp() {
        Coast c = new Coast();
        Check.dueThrow("giveUp(5)", IndexOutOfBoundsException.class, () -> c.x.giveUp(5));
        Check.dueThrow("giveUp, none open", IllegalStateException.class, () -> c.x.giveUp(0));
        c.x.write(2, 0, 0, 0);
        c.x.giveUp(2);
        c.dueRow("0:2>0#7 0:2>1#7 0:2>3#7 0:2>4#7 5:2>0#7 5:2>1#7 5:2>3#7 5:2>4#7");
        c.dueStation(2, "5 0 1 -1 -1 -1 1");
        Check.dueThrow("giveUp again", IllegalStateException.class, () -> c.x.giveUp(2));
        c.loseAll();
        c.collect(1, 0, 2);
        c.x.decide(1);
        c.loseAll();
        c.x.resend(1);
        c.fill(37);
        Check.dueThrow("giveUp, no room", UnsupportedOperationException.class, () -> c.x.giveUp(1));
        c.dueStation(1, "5 0 1 -1 6 6 1");
        c.x.lose(0);
        c.x.giveUp(1);
        Check.due("aborts go to all others, of the group or not", c.find(Coast.ABORT, 1, 4), 39);
        c.dueStation(1, "5 0 1 -1 -1 -1 1");
        c.loseAll();
        c.x.write(3, 0, 0, 0);
        c.x.stop(3);
        Check.dueThrow("giveUp, stopped", IllegalStateException.class, () -> c.x.giveUp(3));
    }

    private static void resend() {
        Coast c = new Coast();
        Check.dueThrow("resend(-1)", IndexOutOfBoundsException.class, () -> c.x.resend(-1));
        Check.dueThrow("resend, none open", IllegalStateException.class, () -> c.x.resend(1));
        c.collect(1, 3, 0);
        c.loseAll();
        Check.due("resend, collecting", c.x.resend(1), 2);
        c.dueRow("0:1>2#6 0:1>4#6");
        c.x.decide(1);
        c.pass(Coast.PREPARE, 1, 3);
        c.pass(Coast.PREPARED, 3, 1);
        c.loseAll();
        Check.due("resend, preparing", c.x.resend(1), 1);
        c.dueRow("2:1>0#6");
        c.fill(40);
        Check.dueThrow("resend, no room", UnsupportedOperationException.class, () -> c.x.resend(1));
        Check.due("letters()", c.x.letters(), 40);
        c.x.lose(39);
        Check.due("resend with 39 letters", c.x.resend(1), 1);
        c.loseAll();
        c.x.resend(1);
        c.pass(Coast.PREPARE, 1, 0);
        c.pass(Coast.PREPARED, 0, 1);
        Check.dueThrow("resend, committed", IllegalStateException.class, () -> c.x.resend(1));
        Coast d = new Coast();
        d.collect(0, 1, 2, 3, 4);
        Check.due("resend, all granted", d.x.resend(0), 0);
        Check.due("letters()", d.x.letters(), 0);
    }
}
