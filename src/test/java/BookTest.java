import java.util.function.Supplier;

/** The first sentence of the document: the book goes on in ever smaller groups, and it stays one book. */
public final class BookTest {
    private static final int ALL = 31;

    private BookTest() {
    }

    public static void main(String[] args) {
        everSmallerGroups();
        halfGoesOnWithTheNamedOne();
        groupGrowsAgain();
        onePieceOfTwo();
        bothWithOneBetween();
        grantOfAnOldBook();
        overtakenDoubt();
        Check.end();
    }

    private static void everSmallerGroups() {
        Coast c = new Coast();
        c.written(4, 0, 1, 2, 3);
        c.dueStation(0, "5 0 0 -1 -1 -1 1 39600#9");
        c.written(4, 2, 3);
        c.dueStation(3, "3 2 0 -1 -1 -1 1 39600#9 39600#14");
        c.written(4, 3);
        c.dueStation(3, "2 3 0 -1 -1 -1 1 39600#9 39600#14 39600#19");
        c.written(3);
        c.dueStation(3, "1 3 1 -1 -1 -1 1 39600#9 39600#14 39600#19 39600#8");
        c.dueStation(4, "2 3 3 -1 -1 -1 1 39600#9 39600#14 39600#19");
        for (int mask = 0; mask <= ALL; mask++) {
            Check.due("allowed(" + mask + ") after 3 alone", c.x.allowed(mask), (mask & 8) != 0);
        }
    }

    private static void halfGoesOnWithTheNamedOne() {
        Coast c = new Coast();
        c.written(1, 2, 3, 4);
        c.dueStation(2, "4 1 0 -1 -1 -1 1 39600#6");
        c.collect(3, 2);
        Check.due("2 and 3 of 1, 2, 3, 4 decide", c.x.decide(3), false);
        c.x.giveUp(3);
        c.x.unlock(2);
        c.loseAll();
        c.written(4, 1);
        c.dueStation(1, "2 1 1 -1 -1 -1 1 39600#6 39600#9");
        c.collect(4);
        Check.due("4 of 1 and 4 decides", c.x.decide(4), false);
        c.written(1);
        c.dueStation(1, "1 1 2 -1 -1 -1 1 39600#6 39600#9 39600#11");
    }

    private static void groupGrowsAgain() {
        Coast c = Coast.alone();
        c.written(4, 0, 1, 2, 3);
        for (int s = 0; s < 5; s++) {
            Check.due("size at " + s, c.x.about(s, Coast.SIZE), 5);
            Check.due("count(" + s + ")", c.x.count(s), 4);
        }
        c.written(4, 2, 3);
        Check.due("count(4)", c.x.count(4), 5);
    }

    /** Of two sets of stations without a common one, at most one may write, whoever wrote last. */
    private static void onePieceOfTwo() {
        onePieceOfTwo("new", States::fresh);
        for (int last = 1; last <= ALL; last++) {
            int group = last;
            if (Integer.bitCount(last) > 2) {
                onePieceOfTwo("after " + last, () -> after(States.fresh(), group));
            } else if (Integer.bitCount(last) == 2) {
                onePieceOfTwo("after " + last, () -> after(after(States.fresh(), group | more(group)), group));
            }
        }
    }

    private static int more(int two) {
        return Integer.lowestOneBit(ALL & ~two);
    }

    private static Coast after(Coast c, int group) {
        int[] all = stations(group);
        int[] others = new int[all.length - 1];
        System.arraycopy(all, 1, others, 0, others.length);
        c.written(all[0], others);
        return c;
    }

    private static int[] stations(int mask) {
        int[] all = new int[Integer.bitCount(mask)];
        int many = 0;
        for (int s = 0; s < 5; s++) {
            if ((mask >> s & 1) == 1) {
                all[many++] = s;
            }
        }
        return all;
    }

    private static void onePieceOfTwo(String when, Supplier<Coast> state) {
        Coast c = state.get();
        boolean[] may = new boolean[ALL + 1];
        for (int mask = 0; mask <= ALL; mask++) {
            may[mask] = c.x.allowed(mask);
        }
        for (int one = 0; one <= ALL; one++) {
            for (int other = 0; other <= ALL; other++) {
                boolean both = (one & other) == 0 && may[one] && may[other];
                Check.due(when + " both " + one + " and " + other + " may write", both, false);
            }
            Check.due(when + " one of " + one + " and the others may write", may[one] || may[ALL - one], true);
        }
    }

    /** Station 2 grants 0, is unlocked and grants 4: both decide, and only one of them commits. */
    private static void bothWithOneBetween() {
        for (int first = 0; first < 2; first++) {
            Coast c = new Coast();
            c.collect(0, 1, 2);
            c.x.unlock(2);
            c.collect(4, 2, 3);
            Check.due("decide(0)", c.x.decide(0), true);
            Check.due("decide(4)", c.x.decide(4), true);
            c.pass(Coast.PREPARE, first == 0 ? 0 : 4, 2);
            c.pass(Coast.PREPARE, first == 0 ? 4 : 0, 2);
            c.pass(Coast.PREPARE, 0, 1);
            c.pass(Coast.PREPARE, 4, 3);
            Check.due("a PREPARED of 2 to 0", c.find(Coast.PREPARED, 2, 0), -1);
            c.pass(Coast.PREPARED, 1, 0);
            c.pass(Coast.PREPARED, 3, 4);
            c.pass(Coast.PREPARED, 2, 4);
            Check.due("count(0)", c.x.count(0), 0);
            Check.due("count(4)", c.x.count(4), 1);
            // 1 doubts a write that cannot come to its end any more
            c.x.ask(1, 4);
            c.pass(Coast.ASK, 1, 4);
            c.pass(Coast.ABORT, 4, 1);
            c.dueStation(1, "5 0 0 -1 -1 -1 1");
        }
    }

    /** Grants that are older than a write of those that gave them do not bring another entry to its place. */
    private static void grantOfAnOldBook() {
        Coast c = new Coast();
        c.x.write(0, 0, 0, 99);
        for (int other : new int[] {1, 2}) {
            c.x.twin(c.find(Coast.LOCK, 0, other));
            c.pass(Coast.LOCK, 0, other);
            c.x.unlock(other);
        }
        c.collect(4, 1, 2);
        Check.due("decide(4)", c.x.decide(4), true);
        c.finishOnly(4, 1, 2);
        c.pass(Coast.GRANT, 1, 0);
        c.pass(Coast.GRANT, 2, 0);
        Check.due("decide(0)", c.x.decide(0), true);
        for (int other : new int[] {1, 2}) {
            c.pass(Coast.LOCK, 0, other);
            Check.due("lock of " + other, c.x.about(other, Coast.HELD), 5);
            c.pass(Coast.PREPARE, 0, other);
            Check.due("a PREPARED of " + other, c.find(Coast.PREPARED, other, 0), -1);
            c.dueStation(other, "3 1 0 -1 5 -1 1 39600#9");
        }
        Check.due("count(0)", c.x.count(0), 0);
    }

    /** A station that is still prepared when the others have gone on hears that its write came to nothing. */
    private static void overtakenDoubt() {
        Coast c = new Coast();
        c.collect(0, 1, 2);
        c.x.decide(0);
        c.pass(Coast.PREPARE, 0, 1);
        c.x.stop(0);
        c.loseAll();
        c.x.unlock(2);
        c.written(4, 2, 3);
        c.x.ask(1, 3);
        c.pass(Coast.ASK, 1, 3);
        c.pass(Coast.ABORT, 3, 1);
        c.written(4, 2, 1);
        c.dueStation(1, "3 1 0 -1 -1 -1 1 39600#9 39600#14");
        c.dueStation(0, "5 0 1 -1 -1 -1 0");
    }
}
