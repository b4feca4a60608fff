import java.util.function.Consumer;
import java.util.function.Supplier;

/** States that many tests begin with, made in few calls, since an object answers for 512 of them alone. */
final class States {
    private States() {
    }

    static Coast fresh() {
        return new Coast();
    }

    /** Station 0 has written, number 5; the LOCKs to 1 .. 4 lie in the row. */
    static Coast writing() {
        Coast c = new Coast();
        c.x.write(0, 0, 0, 99);
        return c;
    }

    /** Station 0 collects, granted by 1 too, which is one too few; LOCKs to 2, 3 and 4 lie in the row. */
    static Coast collectingTwo() {
        Coast c = writing();
        c.x.deliver(0);
        c.x.deliver(3);
        return c;
    }

    /** Station 0 collects, granted by 1 and 2 too; LOCKs to 3 and 4 lie in the row. */
    static Coast collecting() {
        Coast c = collectingTwo();
        c.x.deliver(0);
        c.x.deliver(2);
        return c;
    }

    /** Station 0 prepares with 1 and 2; LOCKs to 3 and 4, PREPAREs to 1 and 2 lie in the row. */
    static Coast preparing() {
        Coast c = collecting();
        c.x.decide(0);
        return c;
    }

    /** As preparing, but 1 is in doubt: LOCKs to 3 and 4, a PREPARE to 2, a PREPARED of 1 lie in the row. */
    static Coast doubting() {
        Coast c = preparing();
        c.x.deliver(2);
        return c;
    }

    /** Stations 1 and 2 are in doubt: LOCKs to 3 and 4, PREPAREDs of 1 and 2 lie in the row. */
    static Coast allDoubting() {
        Coast c = doubting();
        c.x.deliver(2);
        return c;
    }

    /** Station 0 has committed: LOCKs to 3 and 4, COMMITs to 1 and 2 lie in the row. */
    static Coast committed() {
        Coast c = allDoubting();
        c.x.deliver(2);
        c.x.deliver(2);
        return c;
    }

    /** Station 0 has so many notices of area 0 in its book: one with 1 and 2, one with 1, the others alone. */
    static Coast entries(int many) {
        Coast c = new Coast();
        for (int k = 0; k < many; k++) {
            c.x.write(0, 0, 0, 99);
            if (k == 0) {
                deliver(c, 0, 0, 2, 2);
            } else if (k == 1) {
                deliver(c, 0, 3);
            }
            c.x.decide(0);
            if (k == 0) {
                deliver(c, 2, 2, 2, 2, 2, 2);
            } else if (k == 1) {
                deliver(c, 3, 3, 3);
            }
            c.loseAll();
        }
        return c;
    }

    /** Stations 0 and 1 have so many notices, at least two, in their books; both took part in the last write. */
    static Coast entriesOfTwo(int many) {
        Coast c = entries(2);
        for (int k = 2; k < many; k++) {
            c.x.write(0, 0, 0, 99);
            deliver(c, 0, 3);
            c.x.decide(0);
            deliver(c, 3, 3, 3);
            c.loseAll();
        }
        return c;
    }

    static void deliver(Coast c, int... places) {
        for (int i : places) {
            c.x.deliver(i);
        }
    }

    /** A state with one step more. */
    static Supplier<Coast> then(Supplier<Coast> state, Consumer<NoticeStations> step) {
        return () -> {
            Coast c = state.get();
            step.accept(c.x);
            return c;
        };
    }

    /** A state with twins of its first letter, until the row has that many. */
    static Supplier<Coast> row(int many, Supplier<Coast> state) {
        return () -> {
            Coast c = state.get();
            c.fill(many);
            return c;
        };
    }

    static Supplier<Coast> stopped(int station, Supplier<Coast> state) {
        return then(state, x -> x.stop(station));
    }

    /** A state in which no cable leads to a station. */
    static Supplier<Coast> apart(int station, Supplier<Coast> state) {
        return then(state, x -> {
            for (int s = 0; s < 5; s++) {
                if (s != station) {
                    x.cable(s, station, false);
                }
            }
        });
    }
}
