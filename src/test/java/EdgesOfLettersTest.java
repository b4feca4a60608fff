import java.util.function.Supplier;

/** Promises 12 to 16: each sentence that names an edge of the row of letters, from both sides. */
public final class EdgesOfLettersTest {
    private static final Class<IllegalArgumentException> ARGUMENT = IllegalArgumentException.class;
    private static final Class<IllegalStateException> STATE = IllegalStateException.class;
    private static final Class<UnsupportedOperationException> ROOM = UnsupportedOperationException.class;

    private EdgesOfLettersTest() {
    }

    public static void main(String[] args) {
        lettersFromNoneToForty();
        deliverOfNoLetter();
        deliverOfTheFirstAndLast();
        deliverToAStoppedOne();
        deliverInOnePiece();
        deliverOverEveryNet();
        deliverWithStateBeforeRoom();
        deliverWithRoomForCommits();
        deliverIntoAFullRow();
        loseOfNoLetter();
        loseOfEveryLetter();
        twinOfNoLetter();
        twinOfEveryLetter();
        twinWithRoomForOne();
        letterOfNoLetter();
        letterOfWhat();
        Check.end();
    }

    /** "How many letters there are": "40 at most" */
    private static void lettersFromNoneToForty() {
        Edge.idle("letters", 0, States::fresh, x -> x.letters());
        for (int many = 4; many <= 40; many++) {
            Edge.idle("letters", many, States.row(many, States::writing), x -> x.letters());
        }
        Edge.idle("letters of stopped ones", 4, States.stopped(0, States.stopped(1, States::writing)),
                x -> x.letters());
        Edge.idle("letters of one apart", 4, States.apart(0, States::writing), x -> x.letters());
    }

    /** "IndexOutOfBoundsException: there is no such .. letter" */
    private static void deliverOfNoLetter() {
        Edge.noLetter("deliver", States::fresh, (x, i) -> x.deliver(i));
        Edge.noLetter("deliver", States::doubting, (x, i) -> x.deliver(i));
        Edge.noLetter("deliver", States.row(39, States::writing), (x, i) -> x.deliver(i));
        Edge.noLetter("deliver", States.row(40, States::writing), (x, i) -> x.deliver(i));
        Edge.noLetter("deliver, all stopped", States.stopped(3, States.stopped(4, States::collecting)),
                (x, i) -> x.deliver(i));
    }

    private static void deliverOfTheFirstAndLast() {
        Coast c = Edge.taken("deliver the first", Coast.LOCK, States::doubting, x -> x.deliver(0));
        c.dueRow("0:0>4#5 2:0>2#5 3:1>0#5 1:3>0#5");
        Coast d = Edge.taken("deliver the last", Coast.PREPARED, States::doubting, x -> x.deliver(3));
        d.dueRow("0:0>3#5 0:0>4#5 2:0>2#5");
        Coast e = Edge.taken("deliver the last of 40", Coast.LOCK, States.row(40, States::writing),
                x -> x.deliver(39));
        Check.due("letters", e.x.letters(), 40);
        Check.due("the last letter", e.x.letter(39, 0), Coast.GRANT);
    }

    /** "IllegalStateException when .. the receiver is stopped": not when the sender is, or another one */
    private static void deliverToAStoppedOne() {
        Supplier<Coast> stopped = States.stopped(3, States::writing);
        Edge.refused("deliver, receiver stopped", STATE, stopped, x -> x.deliver(2));
        Edge.taken("deliver, receiver started", Coast.LOCK, States.then(stopped, x -> x.start(3)), x -> x.deliver(2));
        Edge.taken("deliver, another one stopped", Coast.LOCK, stopped, x -> x.deliver(3));
        Edge.taken("deliver, sender stopped", Coast.LOCK, States.stopped(0, States::writing), x -> x.deliver(2));
        Edge.refused("deliver, stopped and apart", STATE, States.apart(3, stopped), x -> x.deliver(2));
    }

    /** "IllegalStateException when sender and receiver are not in one piece": "over any stations" */
    private static void deliverInOnePiece() {
        Supplier<Coast> apart = States.apart(3, States::writing);
        Edge.refused("deliver, receiver apart", STATE, apart, x -> x.deliver(2));
        Edge.taken("deliver, another one apart", Coast.LOCK, apart, x -> x.deliver(3));
        Edge.refused("deliver, sender apart", STATE, States.apart(0, States::writing), x -> x.deliver(2));
        Supplier<Coast> around = States.then(apart, x -> x.cable(3, 4, true));
        Edge.taken("deliver, over another one", Coast.LOCK, around, x -> x.deliver(2));
        Edge.taken("deliver, over a stopped one", Coast.LOCK, States.stopped(4, around), x -> x.deliver(2));
        Edge.refused("deliver, torn again", STATE, States.then(around, x -> x.cable(4, 3, false)), x -> x.deliver(2));
    }

    /** Every net of cables, with a LOCK from every station to every other. */
    private static void deliverOverEveryNet() {
        for (int net = 0; net < 1024; net++) {
            for (int writer = 0; writer < 5; writer++) {
                Coast c = new Coast();
                c.x.write(writer, 0, 0, 0);
                boolean[][] joined = tear(c, net);
                for (int other = 0; other < 5; other++) {
                    if (other != writer) {
                        int i = c.find(Coast.LOCK, writer, other);
                        if (joined[writer][other]) {
                            Check.due("deliver in net " + net, c.x.deliver(i), Coast.LOCK);
                        } else {
                            Check.dueThrow("deliver in net " + net, STATE, () -> c.x.deliver(i));
                        }
                    }
                }
            }
        }
    }

    private static boolean[][] tear(Coast c, int net) {
        boolean[][] joined = new boolean[5][5];
        int cable = 0;
        for (int s = 0; s < 5; s++) {
            for (int t = 0; t < s; t++) {
                boolean up = (net >> cable & 1) != 0;
                c.x.cable(s, t, up);
                joined[s][t] = up;
                joined[t][s] = up;
                cable++;
            }
        }
        for (int over = 0; over < 5; over++) {
            for (int s = 0; s < 5; s++) {
                for (int t = 0; t < 5; t++) {
                    joined[s][t] |= joined[s][over] && joined[over][t];
                }
            }
        }
        return joined;
    }

    /** A group of so many, station 0 preparing; only one PREPARED is missing, which is the first letter. */
    static Supplier<Coast> lastPrepared(int group) {
        return () -> {
            Coast c = group == 2 ? States.entries(1) : new Coast();
            c.x.write(0, 0, 0, 99);
            for (int s = 1; s < group; s++) {
                c.grant(0, s);
            }
            c.loseAll();
            c.x.decide(0);
            for (int s = 1; s < group; s++) {
                c.x.deliver(0);
            }
            for (int s = 2; s < group; s++) {
                c.x.deliver(1);
            }
            return c;
        };
    }

    private static void deliverWithStateBeforeRoom() {
        Edge.refused("deliver, apart and no room", STATE, States.apart(0, States.row(40, lastPrepared(3))),
                x -> x.deliver(0));
        Edge.refused("deliver, apart and no room", STATE, States.apart(1, States.row(40, lastPrepared(5))),
                x -> x.deliver(0));
    }

    /** "UnsupportedOperationException: there would be more than 40 letters (one that is delivered does not count)" */
    private static void deliverWithRoomForCommits() {
        for (int group = 2; group <= 5; group++) {
            Supplier<Coast> state = lastPrepared(group);
            int most = 42 - group;
            int places = group == 2 ? 2 : 1;
            Coast c = Edge.taken("the last PREPARED of " + group, Coast.PREPARED, States.row(most, state),
                    x -> x.deliver(0));
            Check.due("letters", c.x.letters(), 40);
            Check.due("count", c.x.count(0), places);
            Check.due("the last letter", c.x.letter(39, 0), Coast.COMMIT);
            Check.due("it goes to the greatest", c.x.letter(39, 2), group - 1);
            for (int letters = most + 1; letters <= 40; letters++) {
                Edge.refused("the last PREPARED of " + group + ", " + letters + " letters", ROOM,
                        States.row(letters, state), x -> x.deliver(0));
            }
        }
    }

    /** "one that is delivered does not count": an answer always has room */
    private static void deliverIntoAFullRow() {
        answerInAFullRow(States::writing, Coast.LOCK, Coast.GRANT);
        answerInAFullRow(States.then(States::preparing, EdgesOfLettersTest::loseTwo), Coast.PREPARE, Coast.PREPARED);
        Supplier<Coast> asking = States.then(States::committed, x -> {
            x.ask(1, 0);
            loseTwo(x);
            loseTwo(x);
        });
        answerInAFullRow(asking, Coast.ASK, Coast.COMMIT);
        Supplier<Coast> askingInVain = States.then(States.stopped(0, States::doubting), x -> {
            x.start(0);
            x.ask(1, 0);
            loseTwo(x);
            loseTwo(x);
        });
        answerInAFullRow(askingInVain, Coast.ASK, Coast.ABORT);
        // a PREPARED that is not the last one, or comes once more, or too late, sends nothing
        Supplier<Coast> two = States.then(States::allDoubting, EdgesOfLettersTest::loseTwo);
        quietInAFullRow(two);
        quietInAFullRow(States.then(two, x -> {
            x.twin(0);
            x.deliver(0);
            x.lose(0);
        }));
        quietInAFullRow(States.then(two, x -> {
            x.twin(0);
            x.deliver(0);
            x.deliver(0);
        }));
    }

    private static void loseTwo(NoticeStations x) {
        x.lose(0);
        x.lose(0);
    }

    private static void answerInAFullRow(Supplier<Coast> state, int kind, int answer) {
        Coast c = Edge.taken("deliver in a full row", kind, States.row(40, state), x -> x.deliver(0));
        Check.due("letters", c.x.letters(), 40);
        Check.due("the answer", c.x.letter(39, 0), answer);
    }

    private static void quietInAFullRow(Supplier<Coast> state) {
        Coast c = Edge.taken("deliver in a full row", Coast.PREPARED, States.row(40, state), x -> x.deliver(0));
        Check.due("letters", c.x.letters(), 39);
    }

    private static void loseOfNoLetter() {
        Edge.noLetter("lose", States::fresh, (x, i) -> x.lose(i));
        Edge.noLetter("lose", States::doubting, (x, i) -> x.lose(i));
        Edge.noLetter("lose", States.row(40, States::writing), (x, i) -> x.lose(i));
    }

    /** "Letter i is lost": that one alone, whoever is stopped or apart */
    private static void loseOfEveryLetter() {
        String[] rows = {"0:0>4#5 2:0>2#5 3:1>0#5", "0:0>3#5 2:0>2#5 3:1>0#5", "0:0>3#5 0:0>4#5 3:1>0#5",
            "0:0>3#5 0:0>4#5 2:0>2#5"};
        for (int i = 0; i < 4; i++) {
            int lost = i;
            Edge.done("lose " + i, States::doubting, x -> x.lose(lost)).dueRow(rows[i]);
        }
        Edge.done("lose, stopped", States.stopped(3, States::doubting), x -> x.lose(0)).dueRow(rows[0]);
        Edge.done("lose, apart", States.apart(3, States::doubting), x -> x.lose(0)).dueRow(rows[0]);
        Coast c = Edge.done("lose the last of 40", States.row(40, States::writing), x -> x.lose(39));
        Check.due("letters", c.x.letters(), 39);
    }

    private static void twinOfNoLetter() {
        Edge.noLetter("twin", States::fresh, (x, i) -> x.twin(i));
        Edge.noLetter("twin", States::doubting, (x, i) -> x.twin(i));
        Edge.noLetter("twin", States.row(39, States::writing), (x, i) -> x.twin(i));
        // the row is full too, and the letter comes first
        Edge.noLetter("twin", States.row(40, States::writing), (x, i) -> x.twin(i));
    }

    /** "Letter i lies in the row once more, behind the last." */
    private static void twinOfEveryLetter() {
        String[] letters = {"0:0>3#5", "0:0>4#5", "2:0>2#5", "3:1>0#5"};
        for (int i = 0; i < 4; i++) {
            int one = i;
            Coast c = Edge.done("twin " + i, States::doubting, x -> x.twin(one));
            c.dueRow(String.join(" ", letters) + " " + letters[i]);
        }
        Edge.done("twin, stopped", States.stopped(3, States::doubting), x -> x.twin(0));
        Edge.done("twin, apart", States.apart(3, States::doubting), x -> x.twin(0));
    }

    /** "UnsupportedOperationException: there would be more than 40 letters" */
    private static void twinWithRoomForOne() {
        Coast c = Edge.done("twin, 39 letters", States.row(39, States::doubting), x -> x.twin(3));
        Check.due("letters", c.x.letters(), 40);
        Check.due("the last letter", c.x.letter(39, 0), Coast.PREPARED);
        for (int i : new int[] {0, 3, 39}) {
            Edge.refused("twin, 40 letters", ROOM, States.row(40, States::doubting), x -> x.twin(i));
        }
    }

    private static void letterOfNoLetter() {
        Edge.noLetter("letter", States::fresh, (x, i) -> x.letter(i, 0));
        Edge.noLetter("letter", States::doubting, (x, i) -> x.letter(i, 3));
        Edge.noLetter("letter", States.row(40, States::writing), (x, i) -> x.letter(i, 0));
        Edge.noLetter("letter, what is wrong too", States::doubting, (x, i) -> x.letter(i, 4));
        Edge.noLetter("letter, what is wrong too", States::fresh, (x, i) -> x.letter(i, -1));
    }

    /** "0 its kind, 1 from whom, 2 to whom, 3 the number .. IllegalArgumentException when what is none of these" */
    private static void letterOfWhat() {
        int[][] want = {{0, 0, 3, 5}, {0, 0, 4, 5}, {2, 0, 2, 5}, {3, 1, 0, 5}};
        for (int i = 0; i < 4; i++) {
            int one = i;
            for (int what = 0; what < 4; what++) {
                int asked = what;
                Edge.idle("letter", want[i][what], States::doubting, x -> x.letter(one, asked));
            }
            for (int what : new int[] {-1, 4, Integer.MIN_VALUE, Integer.MAX_VALUE}) {
                Edge.refused("letter, what " + what, ARGUMENT, States::doubting, x -> x.letter(one, what));
            }
        }
        Edge.idle("the last of 40", Coast.LOCK, States.row(40, States::writing), x -> x.letter(39, 0));
    }
}
