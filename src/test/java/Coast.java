/** A NoticeStations with short ways to the states that tests need, and to read them. */
final class Coast {
    static final int LOCK = 0;
    static final int GRANT = 1;
    static final int PREPARE = 2;
    static final int PREPARED = 3;
    static final int COMMIT = 4;
    static final int ABORT = 5;
    static final int ASK = 6;

    static final int SIZE = 0;
    static final int NAMED = 1;
    static final int BEGAN = 2;
    static final int DOUBT = 3;
    static final int HELD = 4;
    static final int OPEN = 5;
    static final int UP = 6;

    static final int NONE = NoticeStations.NONE;

    final NoticeStations x = new NoticeStations();

    /** The place of the first letter of a kind between two stations, or -1. */
    int find(int kind, int from, int to) {
        int many = x.letters();
        for (int i = 0; i < many; i++) {
            if (x.letter(i, 0) == kind && x.letter(i, 1) == from && x.letter(i, 2) == to) {
                return i;
            }
        }
        return -1;
    }

    void pass(int kind, int from, int to) {
        int i = find(kind, from, to);
        if (i < 0) {
            Check.fail("there is no letter of kind " + kind + " from " + from + " to " + to);
            return;
        }
        Check.due("deliver a letter of kind " + kind, x.deliver(i), kind);
    }

    void loseAll() {
        for (int left = x.letters(); left > 0; left--) {
            x.lose(0);
        }
    }

    void loseAllBut(int kind) {
        for (int i = x.letters() - 1; i >= 0; i--) {
            if (x.letter(i, 0) != kind) {
                x.lose(i);
            }
        }
    }

    /** Letters until the row has that many: twins of its first. */
    void fill(int many) {
        for (int have = x.letters(); have < many; have++) {
            x.twin(0);
        }
    }

    /** A write of a station that others grant; it still collects. */
    int collect(int writer, int... others) {
        int number = x.write(writer, 0, 0, 99);
        grant(writer, others);
        return number;
    }

    void grant(int writer, int... others) {
        for (int other : others) {
            pass(LOCK, writer, other);
            pass(GRANT, other, writer);
        }
    }

    /** Takes a write that collects to its end at all that granted. */
    void finish(int writer, int... others) {
        Check.due("decide(" + writer + ")", x.decide(writer), true);
        finishPrepared(writer, others);
    }

    /** Takes a write that prepares to its end at all of its group, and loses all other letters. */
    void finishPrepared(int writer, int... others) {
        finishOnly(writer, others);
        loseAll();
    }

    /** Takes a write that prepares to its end at all of its group. */
    void finishOnly(int writer, int... others) {
        for (int other : others) {
            pass(PREPARE, writer, other);
        }
        for (int other : others) {
            pass(PREPARED, other, writer);
        }
        for (int other : others) {
            pass(COMMIT, writer, other);
        }
    }

    int written(int writer, int... others) {
        int number = collect(writer, others);
        finish(writer, others);
        return number;
    }

    int noticed(int area, int from, int to, int writer, int... others) {
        int number = x.write(writer, area, from, to);
        grant(writer, others);
        finish(writer, others);
        return number;
    }

    int withdrawn(int k, int writer, int... others) {
        int number = x.withdraw(writer, k);
        grant(writer, others);
        finish(writer, others);
        return number;
    }

    /** Station 0 alone may write on, after 0 with 1 and 2 and 0 with 1 have written. */
    static Coast alone() {
        Coast c = new Coast();
        c.written(0, 1, 2);
        c.written(0, 1);
        c.written(0);
        return c;
    }

    /** The row as text: kind, sender, receiver and number of each letter. */
    String row() {
        StringBuilder text = new StringBuilder();
        int many = x.letters();
        for (int i = 0; i < many; i++) {
            text.append(i == 0 ? "" : " ").append(x.letter(i, 0)).append(':').append(x.letter(i, 1)).append('>');
            text.append(x.letter(i, 2)).append('#').append(x.letter(i, 3));
        }
        return text.toString();
    }

    /** What a station stores and has as text: about 0 .. 6, then its book. */
    String station(int station) {
        StringBuilder text = new StringBuilder();
        for (int what = 0; what <= 6; what++) {
            text.append(what == 0 ? "" : " ").append(x.about(station, what));
        }
        int many = x.count(station);
        for (int k = 0; k < many; k++) {
            text.append(' ').append(x.entry(station, k, false)).append('#').append(x.entry(station, k, true));
        }
        return text.toString();
    }

    void dueRow(String want) {
        Check.due("the row", row(), want);
    }

    void dueStation(int station, String want) {
        Check.due("station " + station, station(station), want);
    }
}
