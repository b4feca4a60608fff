import java.lang.reflect.InvocationTargetException;
import java.lang.reflect.Method;
import java.lang.reflect.Modifier;
import java.util.ArrayList;
import java.util.List;
import java.util.Map;
import java.util.Random;
import java.util.TreeMap;
import java.util.function.Predicate;

/** Random runs of at most 512 calls, every answer compared with the model's, and all that can be read at the end. */
public final class RandomRunsTest {
    private static final int RUNS = 4000;
    private static final int CALLS = 512;
    private static final String[] OPS = {"cable", "write", "withdraw", "decide", "giveUp", "resend", "unlock", "ask",
        "stop", "start", "letters", "deliver", "lose", "twin", "letter", "count", "entry", "about", "allowed",
        "inForce"};
    // how often a call is drawn in a run is drawn for the run, from 0 up to this
    private static final int[] MOST = {6, 60, 40, 60, 4, 12, 8, 30, 3, 10, 2, 400, 40, 30, 6, 4, 6, 12, 12, 10};
    private static final String[] OPENERS = {"write", "write", "withdraw", "unlock", "resend", "ask", "decide"};
    private static final String[] EDGES = {"write IndexOutOfBounds", "write IllegalArgument", "write IllegalState",
        "write UnsupportedOperation", "withdraw NoSuchElement", "withdraw IllegalState",
        "withdraw UnsupportedOperation", "decide 0", "decide 1", "decide IllegalState",
        "decide UnsupportedOperation", "giveUp IllegalState", "giveUp UnsupportedOperation", "resend 0", "resend 1",
        "resend 4", "resend IllegalState", "resend UnsupportedOperation", "unlock IllegalState", "ask IndexOutOfBounds",
        "ask IllegalState", "ask UnsupportedOperation", "stop 0", "start 0", "deliver IndexOutOfBounds",
        "deliver IllegalState", "deliver UnsupportedOperation", "deliver 0", "deliver 1", "deliver 2", "deliver 3",
        "deliver 4", "deliver 5", "deliver 6", "twin UnsupportedOperation", "allowed 1", "inForce 2", "count 16"};

    private static final Map<String, Method> METHODS = methods();
    private static final Map<String, Integer> seen = new TreeMap<>();
    private static int withRivals = 0;

    private final Random random;
    private final NoticeStations x = new NoticeStations();
    private final Model model = new Model();
    private final StringBuilder told = new StringBuilder();
    private final int[] weights = new int[OPS.length];
    private final int reach;
    private final int wild;
    private final int mended;
    private final boolean crowded;
    private final int manner;
    // what was first seen at each place, on any station, at any time
    private final List<Model.Line> book = new ArrayList<>();
    private int calls = 0;
    private boolean right = true;
    private boolean rivals = false;

    private RandomRunsTest(long seed) {
        random = new Random(seed);
        for (int op = 0; op < OPS.length; op++) {
            weights[op] = random.nextInt(MOST[op] + 1);
        }
        reach = 1 + random.nextInt(5);
        crowded = random.nextInt(6) == 0;
        manner = random.nextInt(5);
        mended = 2 + random.nextInt(4);
        wild = random.nextInt(3) == 0 ? 10 : 200;
    }

    public static void main(String[] args) {
        for (int seed = 0; seed < RUNS; seed++) {
            new RandomRunsTest(seed).run(seed);
        }
        for (String edge : EDGES) {
            Check.due("runs that came to " + edge, seen.containsKey(edge), true);
        }
        Check.due("more than 100 runs in which two prepared at once", withRivals > 100, true);
        Check.end();
    }

    private void run(int seed) {
        if (random.nextInt(5) == 0) {
            fillBook(10 + random.nextInt(7));
        }
        int drawn = CALLS - random.nextInt(2) * 361;
        while (right && calls < drawn) {
            if (manner < 2 && random.nextInt(12) != 0) {
                goOn();
            } else if (manner == 2 && random.nextInt(30) != 0) {
                rival();
            } else {
                String op = sensible(draw());
                int[] a = arguments(op);
                compare(op, a[0], a[1], a[2], a[3]);
            }
        }
        readAll();
        withRivals += rivals ? 1 : 0;
        if (!right) {
            Check.fail("run " + seed + ":" + told);
        }
    }

    // stations 0, 1 and 2 write one entry, 0 and 1 the next, and 0 alone the others
    private void fillBook(int places) {
        compare("write", 0, any(4), any(100), any(100));
        for (int i : new int[] {0, 0, 2, 2}) {
            compare("deliver", i, 0, 0, 0);
        }
        compare("decide", 0, 0, 0, 0);
        for (int many = 0; many < 6; many++) {
            compare("deliver", 2, 0, 0, 0);
        }
        loseAll();
        compare("write", 0, any(4), any(100), any(100));
        compare("deliver", 0, 0, 0, 0);
        compare("deliver", 3, 0, 0, 0);
        compare("decide", 0, 0, 0, 0);
        for (int many = 0; many < 3; many++) {
            compare("deliver", 3, 0, 0, 0);
        }
        for (int k = 2; k < places; k++) {
            loseAll();
            compare(random.nextInt(4) == 0 ? "withdraw" : "write", 0, any(4), any(100), any(100));
            compare("decide", 0, 0, 0, 0);
        }
    }

    private void loseAll() {
        for (int left = model.letters(); left > 0; left--) {
            compare("lose", 0, 0, 0, 0);
        }
    }

    // in a calm run mostly the call that brings some write nearer to its end, so that books grow
    private void goOn() {
        int writer = first(-1, p -> p.open != null);
        int letter = lively(writer);
        if (letter >= 0 && random.nextInt(6) != 0) {
            compare("deliver", letter, 0, 0, 0);
        } else if (writer >= 0) {
            boolean decides = model.places.get(writer).open.next == null && random.nextInt(3) != 0;
            compare(decides ? "decide" : random.nextInt(4) == 0 ? "giveUp" : "resend", writer, 0, 0, 0);
        } else if (first(-1, p -> p.doubt != null) >= 0 && random.nextInt(3) == 0) {
            compare("ask", first(-1, p -> p.doubt != null), random.nextInt(5), 0, 0);
        } else if (first(-1, p -> p.lock != null) >= 0 && random.nextInt(2) == 0) {
            compare("unlock", first(-1, p -> p.lock != null), 0, 0, 0);
        } else if (model.letters() > 8) {
            compare("lose", random.nextInt(model.letters()), 0, 0, 0);
        } else {
            int[] a = arguments("write");
            boolean takesBack = random.nextInt(4) == 0 && a[0] >= 0 && a[0] < 5 && model.count(a[0]) > 0;
            compare(takesBack ? "withdraw" : "write", a[0], takesBack ? a[1] : any(4), a[2], a[3]);
        }
    }

    // in a run of rivals as many as can write at once, and locks are taken away, so that several prepare
    private void rival() {
        int some = random.nextInt(20);
        int writer = first(-1, p -> p.open != null && p.open.next == null && p.open.granted.size() > 1);
        int locked = first(-1, p -> p.lock != null && p.open == null);
        if (model.letters() > 0 && some < 12) {
            int last = model.letters() - 1;
            compare("deliver", random.nextInt(3) == 0 ? last : random.nextInt(last + 1), 0, 0, 0);
        } else if (writer >= 0 && some < 15) {
            compare("decide", writer, 0, 0, 0);
        } else if (locked >= 0 && some < 17) {
            compare("unlock", locked, 0, 0, 0);
        } else if (some == 17 && model.letters() > 0) {
            compare(model.letters() > 20 ? "lose" : "twin", random.nextInt(model.letters()), 0, 0, 0);
        } else if (some == 18) {
            compare("ask", first(0, p -> p.doubt != null), random.nextInt(5), 0, 0);
        } else if (some == 19 && first(-1, p -> p.open != null) >= 0) {
            compare(random.nextInt(3) == 0 ? "giveUp" : "resend", first(0, p -> p.open != null), 0, 0, 0);
        } else {
            int s = first(0, p -> p.up && p.lock == null && p.doubt == null);
            compare("write", s, any(4), any(100), any(100));
        }
        rivals |= model.places.stream().filter(p -> p.open != null && p.open.next != null).count() > 1;
    }

    private int lively(int writer) {
        for (int tries = 0; tries < 20 && model.letters() > 0; tries++) {
            int i = random.nextInt(model.letters());
            boolean alive = writer < 0 || model.row.get(i).number() == model.places.get(writer).open.number;
            if (alive && model.places.get(model.row.get(i).to()).up) {
                return i;
            }
        }
        return -1;
    }

    private String draw() {
        int sum = 0;
        for (int weight : weights) {
            sum += weight;
        }
        int left = random.nextInt(sum + 1);
        for (int op = 0; op < OPS.length; op++) {
            left -= weights[op];
            if (left < 0) {
                return OPS[op];
            }
        }
        return "deliver";
    }

    // most calls about letters that are not there are such as make letters, most stops are starts,
    // and in a crowded run the row is kept nearly full
    private String sensible(String op) {
        boolean aboutLetters = op.equals("deliver") || op.equals("lose") || op.equals("twin") || op.equals("letter");
        if (aboutLetters && model.letters() == 0 && random.nextInt(20) != 0) {
            return OPENERS[random.nextInt(OPENERS.length)];
        }
        if (crowded && model.letters() > 0 && model.letters() < 38 && random.nextInt(2) == 0) {
            return "twin";
        }
        boolean enoughStopped = model.places.stream().filter(p -> !p.up).count() > 1;
        return op.equals("stop") && enoughStopped && random.nextInt(4) != 0 ? "start" : op;
    }

    private int any(int bound) {
        return random.nextInt(wild) == 0 ? random.nextInt(bound + 4) - 2 : random.nextInt(Math.max(1, bound));
    }

    // the first stations are drawn more often in some runs, so that small groups come about
    private int station() {
        return random.nextInt(4) == 0 ? any(5) : any(reach);
    }

    private int[] arguments(String op) {
        int s = station();
        int row = model.letters();
        switch (op) {
            case "cable":
                return new int[] {s, any(5), one(random.nextInt(mended) != 0), 0};
            case "write":
                s = random.nextInt(3) == 0 ? s : first(s, p -> p.up && p.lock == null && p.doubt == null);
                return new int[] {s, any(4), any(100), any(100)};
            case "decide":
                return new int[] {random.nextInt(8) == 0 ? s : first(s, p -> p.open != null && p.open.granted.size() > 2),
                    0, 0, 0};
            case "giveUp", "resend":
                return new int[] {random.nextInt(8) == 0 ? s : first(s, p -> p.open != null), 0, 0, 0};
            case "ask":
                return new int[] {random.nextInt(8) == 0 ? s : first(s, p -> p.doubt != null), any(5), 0, 0};
            case "start":
                return new int[] {random.nextInt(3) == 0 ? s : first(s, p -> !p.up), 0, 0, 0};
            case "unlock":
                return new int[] {random.nextInt(3) == 0 ? s : first(s, p -> p.lock != null), 0, 0, 0};
            case "deliver", "lose", "twin":
                return new int[] {random.nextInt(3) == 0 ? Math.max(0, row - 1) : any(row), 0, 0, 0};
            case "letter":
                return new int[] {any(row), any(4), 0, 0};
            case "about":
                return new int[] {s, any(7), 0, 0};
            case "allowed":
                return new int[] {any(32), 0, 0, 0};
            case "inForce":
                return new int[] {s, any(4), any(100), 0};
            default:
                return new int[] {s, any(s < 0 || s > 4 ? 1 : model.count(s)), random.nextInt(2), 0};
        }
    }

    private int first(int otherwise, Predicate<Model.Place> fits) {
        for (int s = 0; s < 5; s++) {
            int turned = (s + calls) % 5;
            if (fits.test(model.places.get(turned))) {
                return turned;
            }
        }
        return otherwise;
    }

    private void compare(String op, int a, int b, int c, int d) {
        if (!right || calls >= CALLS) {
            return;
        }
        calls++;
        String want = answer(model, op, a, b, c, d);
        String got = answer(x, op, a, b, c, d);
        told.append(' ').append(op).append('(').append(a).append(',').append(b).append(',').append(c).append(',');
        told.append(d).append(")=").append(got);
        Check.due(op, got, want);
        right = got.equals(want);
        seen.merge(op + " " + want, 1, Integer::sum);
        agree();
    }

    private static String answer(Object target, String op, int... drawn) {
        Method method = METHODS.get(target.getClass().getName() + "." + op);
        Object[] a = new Object[method.getParameterCount()];
        for (int i = 0; i < a.length; i++) {
            a[i] = method.getParameterTypes()[i] == boolean.class ? (Object) (drawn[i] == 1) : (Object) drawn[i];
        }
        try {
            Object got = method.invoke(target, a);
            return got instanceof Boolean truth ? (truth ? "1" : "0") : String.valueOf(got);
        } catch (InvocationTargetException e) {
            return e.getCause().getClass().getSimpleName().replace("Exception", "");
        } catch (IllegalAccessException e) {
            return "no access";
        }
    }

    private static Map<String, Method> methods() {
        Map<String, Method> named = new TreeMap<>();
        for (Class<?> owner : new Class<?>[] {NoticeStations.class, Model.class}) {
            for (Method method : owner.getDeclaredMethods()) {
                if (!Modifier.isPrivate(method.getModifiers())) {
                    named.put(owner.getName() + "." + method.getName(), method);
                }
            }
        }
        return named;
    }

    private static int one(boolean answer) {
        return answer ? 1 : 0;
    }

    private void readAll() {
        for (int s = 0; s < 5; s++) {
            compare("count", s, 0, 0, 0);
            for (int what = 0; what < 7; what++) {
                compare("about", s, what, 0, 0);
            }
            for (int k = 0; k < model.count(s); k++) {
                compare("entry", s, k, 0, 0);
                compare("entry", s, k, 1, 0);
            }
        }
        compare("letters", 0, 0, 0, 0);
        for (int i = 0; i < model.letters(); i++) {
            for (int what = 0; what < 4; what++) {
                compare("letter", i, what, 0, 0);
            }
        }
    }

    /** No two stations ever have different entries at a place. */
    private void agree() {
        for (int s = 0; s < 5; s++) {
            List<Model.Line> lines = model.places.get(s).held.book();
            for (int k = 0; k < lines.size(); k++) {
                if (k == book.size()) {
                    book.add(lines.get(k));
                }
                if (!lines.get(k).equals(book.get(k))) {
                    Check.fail("station " + s + " has another entry at place " + k);
                    right = false;
                }
            }
        }
    }
}
