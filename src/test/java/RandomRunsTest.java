import java.util.Map;
import java.util.Random;
import java.util.TreeMap;

/** Random runs of at most 512 calls, every answer compared with the model's, and all that can be read at the end. */
public final class RandomRunsTest {
    private static final int RUNS = 6000;
    private static final int CALLS = 512;
    private static final String[] OPS = {"cable", "write", "withdraw", "decide", "giveUp", "resend", "unlock", "ask",
        "stop", "start", "letters", "deliver", "lose", "twin", "letter", "count", "entry", "about", "allowed",
        "inForce"};
    // how often a call is drawn in a run is drawn for the run, from 0 up to this
    private static final int[] MOST = {6, 60, 20, 60, 6, 12, 8, 30, 5, 8, 2, 400, 60, 40, 6, 4, 6, 12, 12, 10};
    private static final String[] EDGES = {"write IndexOutOfBounds", "write IllegalArgument", "write IllegalState",
        "write UnsupportedOperation", "withdraw NoSuchElement", "withdraw IllegalState",
        "withdraw UnsupportedOperation", "decide 0", "decide 1", "decide IllegalState",
        "decide UnsupportedOperation", "giveUp IllegalState", "giveUp UnsupportedOperation", "resend 0", "resend 1",
        "resend 4", "resend IllegalState", "resend UnsupportedOperation", "unlock IllegalState", "ask IndexOutOfBounds",
        "ask IllegalState", "ask UnsupportedOperation", "stop 0", "start 0", "deliver IndexOutOfBounds",
        "deliver IllegalState", "deliver UnsupportedOperation", "deliver 0", "deliver 1", "deliver 2", "deliver 3",
        "deliver 4", "deliver 5", "deliver 6", "twin UnsupportedOperation", "allowed 1", "inForce 2", "count 16"};

    private static final Map<String, Integer> seen = new TreeMap<>();

    private final Random random;
    private final NoticeStations x = new NoticeStations();
    private final Model model = new Model();
    private final StringBuilder told = new StringBuilder();
    private final int[] weights = new int[OPS.length];
    private final int reach;
    private final int wild;
    private int calls = 0;
    private boolean right = true;

    private RandomRunsTest(long seed) {
        random = new Random(seed);
        for (int op = 0; op < OPS.length; op++) {
            weights[op] = random.nextInt(MOST[op] + 1);
        }
        reach = 1 + random.nextInt(5);
        wild = random.nextInt(3) == 0 ? 10 : 200;
    }

    public static void main(String[] args) {
        for (int seed = 0; seed < RUNS; seed++) {
            new RandomRunsTest(seed).run(seed);
        }
        for (String edge : EDGES) {
            Check.due("runs that came to " + edge, seen.containsKey(edge), true);
        }
        Check.end();
    }

    private void run(int seed) {
        int drawn = CALLS - random.nextInt(2) * 361;
        while (right && calls < drawn) {
            String op = draw();
            int[] a = arguments(op);
            compare(op, a[0], a[1], a[2], a[3]);
        }
        readAll();
        agree();
        if (!right) {
            Check.fail("run " + seed + ":" + told);
        }
    }

    private String draw() {
        int sum = 0;
        for (int weight : weights) {
            sum += weight;
        }
        int left = random.nextInt(sum + 1);
        for (int op = 0; op < OPS.length; op++) {
            left -= weights[op];
            if (left < 0) {
                return OPS[op];
            }
        }
        return "deliver";
    }

    private int any(int bound) {
        return random.nextInt(wild) == 0 ? random.nextInt(bound + 4) - 2 : random.nextInt(Math.max(1, bound));
    }

    // the first stations are drawn more often in some runs, so that small groups come about
    private int station() {
        return random.nextInt(4) == 0 ? any(5) : any(reach);
    }

    private int[] arguments(String op) {
        int s = station();
        int row = model.letters();
        switch (op) {
            case "cable":
                return new int[] {s, any(5), random.nextInt(2), 0};
            case "write":
                return new int[] {s, any(4), any(100), any(100)};
            case "decide", "giveUp", "resend":
                return new int[] {random.nextInt(8) == 0 ? s : opened(s), 0, 0, 0};
            case "ask":
                return new int[] {random.nextInt(8) == 0 ? s : doubting(s), any(5), 0, 0};
            case "deliver", "lose", "twin":
                return new int[] {random.nextInt(3) == 0 ? Math.max(0, row - 1) : any(row), 0, 0, 0};
            case "letter":
                return new int[] {any(row), any(4), 0, 0};
            case "about":
                return new int[] {s, any(7), 0, 0};
            case "allowed":
                return new int[] {any(32), 0, 0, 0};
            case "inForce":
                return new int[] {s, any(4), any(100), 0};
            default:
                return new int[] {s, any(s < 0 || s > 4 ? 1 : model.count(s)), random.nextInt(2), 0};
        }
    }

    private int opened(int otherwise) {
        for (int s = 0; s < 5; s++) {
            int turned = (s + calls) % 5;
            if (model.places.get(turned).open != null) {
                return turned;
            }
        }
        return otherwise;
    }

    private int doubting(int otherwise) {
        for (int s = 0; s < 5; s++) {
            int turned = (s + calls) % 5;
            if (model.places.get(turned).doubt != null) {
                return turned;
            }
        }
        return otherwise;
    }

    private void compare(String op, int a, int b, int c, int d) {
        if (!right || calls >= CALLS) {
            return;
        }
        calls++;
        String want = answer(false, op, a, b, c, d);
        String got = answer(true, op, a, b, c, d);
        told.append(' ').append(op).append('(').append(a).append(',').append(b).append(',').append(c).append(',');
        told.append(d).append(")=").append(got);
        Check.due(op, got, want);
        right = got.equals(want);
        seen.merge(op + " " + want, 1, Integer::sum);
    }

    private String answer(boolean real, String op, int a, int b, int c, int d) {
        try {
            return String.valueOf(real ? real(op, a, b, c, d) : due(op, a, b, c, d));
        } catch (RuntimeException e) {
            return e.getClass().getSimpleName().replace("Exception", "");
        }
    }

    private static int one(boolean answer) {
        return answer ? 1 : 0;
    }

    private static int nothing() {
        return 0;
    }

    private int real(String op, int a, int b, int c, int d) {
        switch (op) {
            case "cable": return one(x.cable(a, b, c == 1));
            case "write": return x.write(a, b, c, d);
            case "withdraw": return x.withdraw(a, b);
            case "decide": return one(x.decide(a));
            case "giveUp": x.giveUp(a); return nothing();
            case "resend": return x.resend(a);
            case "unlock": x.unlock(a); return nothing();
            case "ask": x.ask(a, b); return nothing();
            case "stop": return one(x.stop(a));
            case "start": return one(x.start(a));
            case "letters": return x.letters();
            case "deliver": return x.deliver(a);
            case "lose": x.lose(a); return nothing();
            case "twin": x.twin(a); return nothing();
            case "letter": return x.letter(a, b);
            case "count": return x.count(a);
            case "entry": return x.entry(a, b, c == 1);
            case "about": return x.about(a, b);
            case "allowed": return one(x.allowed(a));
            default: return x.inForce(a, b, c);
        }
    }

    private int due(String op, int a, int b, int c, int d) {
        switch (op) {
            case "cable": return one(model.cable(a, b, c == 1));
            case "write": return model.write(a, b, c, d);
            case "withdraw": return model.withdraw(a, b);
            case "decide": return one(model.decide(a));
            case "giveUp": model.giveUp(a); return nothing();
            case "resend": return model.resend(a);
            case "unlock": model.unlock(a); return nothing();
            case "ask": model.ask(a, b); return nothing();
            case "stop": return one(model.stop(a));
            case "start": return one(model.start(a));
            case "letters": return model.letters();
            case "deliver": return model.deliver(a);
            case "lose": model.lose(a); return nothing();
            case "twin": model.twin(a); return nothing();
            case "letter": return model.letter(a, b);
            case "count": return model.count(a);
            case "entry": return model.entry(a, b, c == 1);
            case "about": return model.about(a, b);
            case "allowed": return one(model.allowed(a));
            default: return model.inForce(a, b, c);
        }
    }

    private void readAll() {
        for (int s = 0; s < 5; s++) {
            compare("count", s, 0, 0, 0);
            for (int what = 0; what < 7; what++) {
                compare("about", s, what, 0, 0);
            }
            for (int k = 0; k < model.count(s); k++) {
                compare("entry", s, k, 0, 0);
                compare("entry", s, k, 1, 0);
            }
        }
        compare("letters", 0, 0, 0, 0);
        for (int i = 0; i < model.letters(); i++) {
            for (int what = 0; what < 4; what++) {
                compare("letter", i, what, 0, 0);
            }
        }
    }

    /** No two stations ever have different entries at a place. */
    private void agree() {
        for (int s = 0; s < 5; s++) {
            for (int t = 0; t < s; t++) {
                int both = Math.min(model.count(s), model.count(t));
                for (int k = 0; k < both; k++) {
                    boolean same = model.places.get(s).held.book().get(k).equals(model.places.get(t).held.book().get(k));
                    Check.due("stations " + s + " and " + t + " agree at place " + k, same, true);
                }
            }
        }
    }
}
