/** Promises 2 and 8 to 11: cables, and the calls of a station that another one's write concerns. */
public final class StationsTest {
    private StationsTest() {
    }

    public static void main(String[] args) {
        cable();
        pieces();
        unlock();
        ask();
        stop();
        start();
        Check.end();
    }

    private static void cable() {
        Coast c = new Coast();
        Check.due("tear", c.x.cable(1, 3, false), true);
        Check.due("tear again", c.x.cable(1, 3, false), false);
        Check.due("tear again, from the other end", c.x.cable(3, 1, false), false);
        Check.due("mend from the other end", c.x.cable(3, 1, true), true);
        Check.due("mend again", c.x.cable(1, 3, true), false);
        int[][] bad = {{-1, 0}, {5, 0}, {0, -1}, {0, 5}, {0, 0}, {4, 4}, {5, 5}, {Integer.MIN_VALUE, 32}};
        for (int[] b : bad) {
            Check.dueThrow("cable(" + b[0] + ", " + b[1] + ")", IndexOutOfBoundsException.class,
                    () -> c.x.cable(b[0], b[1], false));
        }
        for (int s = 0; s < 5; s++) {
            for (int t = 0; t < s; t++) {
                Check.due("the others are there", c.x.cable(s, t, true), false);
            }
        }
    }

    private static void pieces() {
        Coast c = new Coast();
        c.x.write(0, 0, 0, 0);
        for (int s = 0; s < 5; s++) {
            for (int t = s + 1; t < 5; t++) {
                c.x.cable(s, t, false);
            }
        }
        Check.dueThrow("deliver, no cable", IllegalStateException.class, () -> c.x.deliver(3));
        // the longest way, against the order of the stations: 0 - 3 - 1 - 2 - 4
        c.x.cable(2, 4, true);
        c.x.cable(2, 1, true);
        c.x.cable(1, 3, true);
        Check.dueThrow("deliver, way not whole", IllegalStateException.class, () -> c.x.deliver(3));
        Check.due("letters()", c.x.letters(), 4);
        c.x.cable(3, 0, true);
        c.x.stop(1);
        Check.due("deliver over others, a stopped one too", c.x.deliver(3), 0);
        Check.due("deliver back", c.x.deliver(3), 1);
        c.x.cable(1, 2, false);
        Check.dueThrow("deliver, torn in the middle", IllegalStateException.class, () -> c.x.deliver(1));
    }

    private static void unlock() {
        Coast c = new Coast();
        Check.dueThrow("unlock(5)", IndexOutOfBoundsException.class, () -> c.x.unlock(5));
        Check.dueThrow("unlock(-1)", IndexOutOfBoundsException.class, () -> c.x.unlock(-1));
        Check.dueThrow("unlock, none", IllegalStateException.class, () -> c.x.unlock(0));
        c.x.write(0, 0, 0, 0);
        Check.dueThrow("unlock, own open write", IllegalStateException.class, () -> c.x.unlock(0));
        c.dueStation(0, "5 0 1 -1 5 5 1");
        c.pass(Coast.LOCK, 0, 1);
        c.dueStation(1, "5 0 0 -1 5 -1 1");
        c.x.unlock(1);
        c.dueStation(1, "5 0 0 -1 -1 -1 1");
        Check.dueThrow("unlock again", IllegalStateException.class, () -> c.x.unlock(1));
        c.pass(Coast.LOCK, 0, 2);
        c.x.stop(2);
        Check.dueThrow("unlock, stopped", IllegalStateException.class, () -> c.x.unlock(2));
        Check.due("write after unlock", c.x.write(1, 0, 0, 0), 6);
    }

    private static void ask() {
        Coast c = new Coast();
        c.collect(0, 1, 2);
        c.x.decide(0);
        c.pass(Coast.PREPARE, 0, 1);
        c.loseAll();
        int[][] bad = {{-1, 0}, {5, 0}, {1, 5}, {1, -1}, {1, 1}, {3, 3}};
        for (int[] b : bad) {
            Check.dueThrow("ask(" + b[0] + ", " + b[1] + ")", IndexOutOfBoundsException.class,
                    () -> c.x.ask(b[0], b[1]));
        }
        Check.dueThrow("ask, locked only", IllegalStateException.class, () -> c.x.ask(2, 0));
        Check.dueThrow("ask, the writer", IllegalStateException.class, () -> c.x.ask(0, 1));
        c.x.ask(1, 4);
        c.x.ask(1, 0);
        c.dueRow("6:1>4#5 6:1>0#5");
        c.fill(40);
        Check.dueThrow("ask, no room", UnsupportedOperationException.class, () -> c.x.ask(1, 0));
        c.x.stop(1);
        Check.dueThrow("ask, stopped", IllegalStateException.class, () -> c.x.ask(1, 0));
        c.x.start(1);
        c.x.lose(0);
        c.x.ask(1, 0);
        Check.due("letters()", c.x.letters(), 40);
    }

    private static void stop() {
        Coast c = new Coast();
        Check.dueThrow("stop(5)", IndexOutOfBoundsException.class, () -> c.x.stop(5));
        Check.dueThrow("stop(-1)", IndexOutOfBoundsException.class, () -> c.x.stop(-1));
        c.written(0, 1, 2);
        c.collect(0, 1, 2);
        c.x.decide(0);
        c.pass(Coast.PREPARE, 0, 1);
        int letters = c.x.letters();
        for (int s = 0; s < 3; s++) {
            Check.due("stop", c.x.stop(s), true);
            Check.due("stop again", c.x.stop(s), false);
        }
        c.dueStation(0, "3 0 2 -1 -1 -1 0 39600#5");
        c.dueStation(1, "3 0 0 10 -1 -1 0 39600#5");
        c.dueStation(2, "3 0 0 -1 -1 -1 0 39600#5");
        Check.due("its letters stay", c.x.letters(), letters);
        // a letter of a stopped station is still delivered
        c.x.start(2);
        c.pass(Coast.PREPARE, 0, 2);
        Check.due("not prepared without the lock", c.x.about(2, Coast.DOUBT), Coast.NONE);
        Check.dueThrow("deliver to a stopped one", IllegalStateException.class,
                () -> c.x.deliver(c.find(Coast.PREPARED, 1, 0)));
    }

    private static void start() {
        Coast c = new Coast();
        Check.dueThrow("start(5)", IndexOutOfBoundsException.class, () -> c.x.start(5));
        Check.dueThrow("start(-1)", IndexOutOfBoundsException.class, () -> c.x.start(-1));
        c.collect(0, 1, 2);
        c.x.decide(0);
        c.pass(Coast.PREPARE, 0, 1);
        for (int s = 0; s < 3; s++) {
            c.x.stop(s);
            Check.due("start", c.x.start(s), true);
        }
        c.dueStation(0, "5 0 1 -1 -1 -1 1");
        c.dueStation(1, "5 0 0 5 -1 -1 1");
        c.dueStation(2, "5 0 0 -1 -1 -1 1");
        Check.due("start, up", c.x.start(0), false);
        Check.due("the next number is a new one", c.x.write(0, 0, 0, 0), 10);
        c.pass(Coast.PREPARED, 1, 0);
        Check.due("an old letter means nothing to it", c.x.count(0), 0);
        // the words are: is up, without lock and open write
        Check.due("start, up with an open write", c.x.start(0), false);
        c.dueStation(0, "5 0 2 -1 -1 -1 1");
    }
}
