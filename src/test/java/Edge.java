import java.util.function.Consumer;
import java.util.function.Function;
import java.util.function.ObjIntConsumer;
import java.util.function.Supplier;

/**
 * Calls at the edges of what the document takes. A state is a way to make it, so that an object after a call can be
 * compared with one that was not called, in all that can be read and in all that becomes of it.
 */
final class Edge {
    private static final int[] NO_STATIONS = {-1, 5, Integer.MIN_VALUE, Integer.MAX_VALUE};

    private Edge() {
    }

    /** The call throws that, and nothing has changed. */
    static void refused(String call, Class<? extends RuntimeException> want, Supplier<Coast> state,
            Consumer<NoticeStations> body) {
        same(call, state, c -> Check.dueThrow(call, want, () -> body.accept(c.x)), c -> { });
    }

    /** The call answers that, and nothing has changed. */
    static void idle(String call, Object want, Supplier<Coast> state, Function<NoticeStations, Object> body) {
        same(call, state, c -> Check.due(call, String.valueOf(body.apply(c.x)), String.valueOf(want)), c -> { });
    }

    /** The call answers that; what else it does is looked at elsewhere. */
    static Coast taken(String call, Object want, Supplier<Coast> state, Function<NoticeStations, Object> body) {
        Coast c = state.get();
        try {
            Check.due(call, String.valueOf(body.apply(c.x)), String.valueOf(want));
        } catch (RuntimeException e) {
            Check.fail(call + " threw " + e.getClass().getSimpleName() + ", due is " + want);
        }
        return c;
    }

    /** A call without an answer is taken. */
    static Coast done(String call, Supplier<Coast> state, Consumer<NoticeStations> body) {
        return taken(call, "done", state, x -> {
            body.accept(x);
            return "done";
        });
    }

    /** A letter that does nothing: to deliver it is to lose it. */
    static void mute(String letter, Supplier<Coast> state, int kind, int from, int to) {
        same(letter, state, c -> c.pass(kind, from, to), c -> c.x.lose(c.find(kind, from, to)));
    }

    /** No station below 0 or above 4 is taken, whatever else is wrong too. */
    static void noStation(String call, Supplier<Coast> state, ObjIntConsumer<NoticeStations> body) {
        for (int s : NO_STATIONS) {
            refused(call + " of station " + s, IndexOutOfBoundsException.class, state, x -> body.accept(x, s));
        }
    }

    /** No letter below 0 or behind the last is taken, whatever else is wrong too. */
    static void noLetter(String call, Supplier<Coast> state, ObjIntConsumer<NoticeStations> body) {
        int many = state.get().x.letters();
        for (int i : new int[] {-1, many, many + 1, 40, 41, Integer.MIN_VALUE, Integer.MAX_VALUE}) {
            refused(call + " of letter " + i + " of " + many, IndexOutOfBoundsException.class, state,
                    x -> body.accept(x, i));
        }
    }

    private static void same(String call, Supplier<Coast> state, Consumer<Coast> one, Consumer<Coast> other) {
        same(call + ", read", state, one, other, Edge::read);
        same(call + ", then letters", state, one, other, Edge::deliverAll);
        same(call + ", then letters, all mended", state, one, other, Edge::mendAndDeliverAll);
        same(call + ", then writes", state, one, other, Edge::goOn);
        same(call + ", then asks", state, one, other, Edge::askAll);
    }

    private static void same(String call, Supplier<Coast> state, Consumer<Coast> one, Consumer<Coast> other,
            Function<Coast, String> told) {
        Coast called = state.get();
        Coast left = state.get();
        one.accept(called);
        other.accept(left);
        Check.due(call, told.apply(called), told.apply(left));
    }

    private static String stations(Coast c) {
        StringBuilder text = new StringBuilder();
        for (int s = 0; s < 5; s++) {
            text.append(" | ").append(c.station(s));
        }
        return text.toString();
    }

    private static String read(Coast c) {
        StringBuilder text = new StringBuilder(c.row()).append(stations(c)).append(" |");
        for (int mask = 0; mask < 32; mask++) {
            text.append(' ').append(c.x.allowed(mask) ? 1 : 0);
        }
        for (int s = 0; s < 5; s++) {
            text.append(" |").append(c.x.inForce(s, 0, 0));
            for (int t = 0; t < s; t++) {
                text.append(' ').append(c.x.cable(s, t, true));
            }
        }
        return text.toString();
    }

    private static String deliverAll(Coast c) {
        StringBuilder text = new StringBuilder();
        for (int tries = 0; tries < 60 && c.x.letters() > 0; tries++) {
            text.append(answer(() -> c.x.deliver(0), () -> c.x.lose(0)));
        }
        return text.append(stations(c)).toString();
    }

    private static String mendAndDeliverAll(Coast c) {
        for (int s = 0; s < 5; s++) {
            if (c.x.about(s, Coast.UP) == 0) {
                c.x.start(s);
            }
            for (int t = 0; t < s; t++) {
                c.x.cable(s, t, true);
            }
        }
        return deliverAll(c);
    }

    private static String goOn(Coast c) {
        StringBuilder text = new StringBuilder();
        c.loseAll();
        for (int s = 0; s < 5; s++) {
            int station = s;
            text.append(answer(() -> c.x.resend(station), () -> { })).append(c.row());
            c.loseAll();
            text.append(answer(() -> c.x.decide(station), () -> { })).append(c.row());
        }
        return text.append(deliverAll(c)).toString();
    }

    private static String askAll(Coast c) {
        StringBuilder text = new StringBuilder();
        c.loseAll();
        for (int s = 0; s < 5; s++) {
            for (int t = 0; t < 5; t++) {
                int station = s;
                int other = t;
                text.append(answer(() -> {
                    c.x.ask(station, other);
                    return c.x.deliver(0);
                }, () -> { }));
            }
        }
        return text.append(c.row()).append(deliverAll(c)).toString();
    }

    private static String answer(Supplier<Object> body, Runnable otherwise) {
        try {
            return body.get() + " ";
        } catch (RuntimeException e) {
            otherwise.run();
            return e.getClass().getSimpleName() + " ";
        }
    }
}
