import java.util.ArrayList;
import java.util.List;
import java.util.NoSuchElementException;
import java.util.TreeMap;
import java.util.TreeSet;

/** The document once more, in lists and maps that are copied at every step, to compare random runs with. */
final class Model {
    static final int NONE = -1;

    record Line(int entry, int number) {
    }

    record Held(List<Line> book, int size, int named) {
        boolean has(int number) {
            return book.stream().anyMatch(line -> line.number == number);
        }

        boolean inForce(int k) {
            return k >= 0 && k < book.size() && book.get(k).entry >= 0
                    && book.stream().noneMatch(line -> line.entry == -1 - k);
        }
    }

    record Mail(int kind, int from, int to, int number, Held held, int asked) {
    }

    static final class Open {
        int number;
        int entry;
        TreeMap<Integer, Held> granted = new TreeMap<>();
        Held next;
        TreeSet<Integer> group = new TreeSet<>();
        TreeSet<Integer> prepared = new TreeSet<>();
    }

    static final class Place {
        boolean up = true;
        Held held = new Held(List.of(), 5, 0);
        int began = 0;
        Integer doubt;
        Held doubted;
        Integer lock;
        Open open;
    }

    final List<Place> places = new ArrayList<>();
    final TreeSet<Integer> torn = new TreeSet<>();
    List<Mail> row = new ArrayList<>();

    Model() {
        for (int s = 0; s < 5; s++) {
            places.add(new Place());
        }
    }

    private Place place(int station) {
        if (station < 0 || station > 4) {
            throw new IndexOutOfBoundsException();
        }
        return places.get(station);
    }

    private Mail mail(int i) {
        if (i < 0 || i >= row.size()) {
            throw new IndexOutOfBoundsException();
        }
        return row.get(i);
    }

    private void send(List<Mail> more) {
        List<Mail> longer = new ArrayList<>(row);
        longer.addAll(more);
        if (longer.size() > 40) {
            throw new UnsupportedOperationException();
        }
        row = longer;
    }

    private static int pair(int a, int b) {
        return Math.min(a, b) * 10 + Math.max(a, b);
    }

    boolean cable(int a, int b, boolean up) {
        place(a);
        place(b);
        if (a == b) {
            throw new IndexOutOfBoundsException();
        }
        return up ? torn.remove(pair(a, b)) : torn.add(pair(a, b));
    }

    private boolean together(int a, int b, TreeSet<Integer> seen) {
        if (a == b) {
            return true;
        }
        seen.add(a);
        for (int s = 0; s < 5; s++) {
            if (!seen.contains(s) && !torn.contains(pair(a, s)) && together(s, b, seen)) {
                return true;
            }
        }
        return false;
    }

    int write(int station, int area, int from, int to) {
        place(station);
        if (area < 0 || area > 3 || from < 0 || from > 99 || to < 0 || to > 99) {
            throw new IllegalArgumentException();
        }
        return open(station, area + 4 * from + 400 * to);
    }

    int withdraw(int station, int k) {
        if (!place(station).held.inForce(k)) {
            throw new NoSuchElementException();
        }
        return open(station, -1 - k);
    }

    private int open(int station, int entry) {
        Place p = place(station);
        if (!p.up || p.lock != null || p.doubt != null) {
            throw new IllegalStateException();
        }
        if (p.held.book.size() == 16) {
            throw new UnsupportedOperationException();
        }
        int number = 5 * (p.began + 1) + station;
        List<Mail> out = new ArrayList<>();
        for (int s = 0; s < 5; s++) {
            if (s != station) {
                out.add(new Mail(0, station, s, number, null, 0));
            }
        }
        send(out);
        p.began++;
        p.lock = number;
        p.open = new Open();
        p.open.number = number;
        p.open.entry = entry;
        p.open.granted.put(station, p.held);
        return number;
    }

    private static Held next(TreeMap<Integer, Held> granted) {
        int most = granted.values().stream().mapToInt(h -> h.book.size()).max().orElse(-1);
        TreeSet<Integer> holders = new TreeSet<>();
        granted.forEach((s, h) -> {
            if (h.book.size() == most) {
                holders.add(s);
            }
        });
        if (holders.isEmpty()) {
            return null;
        }
        Held held = granted.get(holders.last());
        double half = held.size / 2.0;
        boolean may = holders.size() > half || holders.size() == half && holders.contains(held.named);
        return may ? held : null;
    }

    boolean decide(int station) {
        Place p = place(station);
        if (p.open == null || p.open.next != null) {
            throw new IllegalStateException();
        }
        Held old = next(p.open.granted);
        if (old == null) {
            return false;
        }
        List<Line> book = new ArrayList<>(old.book);
        book.add(new Line(p.open.entry, p.open.number));
        if (book.size() > 16) {
            throw new UnsupportedOperationException();
        }
        TreeSet<Integer> group = new TreeSet<>(p.open.granted.keySet());
        Held held = new Held(book, group.size(), group.first());
        List<Mail> out = new ArrayList<>();
        for (int s : group) {
            if (s != station) {
                out.add(new Mail(2, station, s, p.open.number, held, 0));
            }
        }
        send(out);
        p.open.next = held;
        p.open.group = group;
        p.open.prepared.add(station);
        if (group.size() == 1) {
            commit(station);
        }
        return true;
    }

    private void commit(int station) {
        Place p = place(station);
        List<Mail> out = new ArrayList<>();
        for (int s : p.open.group) {
            if (s != station) {
                out.add(new Mail(4, station, s, p.open.number, null, 0));
            }
        }
        send(out);
        p.held = p.open.next;
        p.lock = null;
        p.open = null;
    }

    void giveUp(int station) {
        Place p = place(station);
        if (p.open == null) {
            throw new IllegalStateException();
        }
        List<Mail> out = new ArrayList<>();
        for (int s = 0; s < 5; s++) {
            if (s != station) {
                out.add(new Mail(5, station, s, p.open.number, null, 0));
            }
        }
        send(out);
        p.open = null;
        p.lock = null;
    }

    int resend(int station) {
        Place p = place(station);
        if (p.open == null) {
            throw new IllegalStateException();
        }
        List<Mail> out = new ArrayList<>();
        for (int s = 0; s < 5; s++) {
            if (p.open.next == null && !p.open.granted.containsKey(s)) {
                out.add(new Mail(0, station, s, p.open.number, null, 0));
            }
            if (p.open.next != null && p.open.group.contains(s) && !p.open.prepared.contains(s)) {
                out.add(new Mail(2, station, s, p.open.number, p.open.next, 0));
            }
        }
        send(out);
        return out.size();
    }

    void unlock(int station) {
        Place p = place(station);
        if (p.lock == null || p.open != null) {
            throw new IllegalStateException();
        }
        p.lock = null;
    }

    void ask(int station, int other) {
        Place p = place(station);
        place(other);
        if (station == other) {
            throw new IndexOutOfBoundsException();
        }
        if (!p.up || p.doubt == null) {
            throw new IllegalStateException();
        }
        send(List.of(new Mail(6, station, other, p.doubt, null, p.doubted.book.size())));
    }

    boolean stop(int station) {
        Place p = place(station);
        boolean was = p.up;
        p.up = false;
        p.lock = null;
        p.open = null;
        return was;
    }

    boolean start(int station) {
        Place p = place(station);
        boolean was = p.up;
        p.up = true;
        p.lock = null;
        p.open = null;
        return !was;
    }

    int letters() {
        return row.size();
    }

    int deliver(int i) {
        Mail mail = mail(i);
        Place p = place(mail.to);
        if (!p.up || !together(mail.from, mail.to, new TreeSet<>())) {
            throw new IllegalStateException();
        }
        List<Mail> before = row;
        row = new ArrayList<>(row);
        row.remove(i);
        try {
            arrive(mail, p);
        } catch (UnsupportedOperationException e) {
            row = before;
            if (mail.kind == 3) {
                p.open.prepared.remove(mail.from);
            }
            throw new UnsupportedOperationException();
        }
        return mail.kind;
    }

    private void answer(Mail mail, int kind, Held held) {
        send(List.of(new Mail(kind, mail.to, mail.from, mail.number, held, 0)));
    }

    private void arrive(Mail mail, Place p) {
        boolean doubts = p.doubt != null && p.doubt == mail.number;
        boolean locked = p.lock != null && p.lock == mail.number;
        boolean opened = p.open != null && p.open.number == mail.number;
        if (mail.kind == 0) {
            if (p.lock == null && p.doubt == null) {
                p.lock = mail.number;
                locked = true;
            }
            if (locked && p.open == null) {
                answer(mail, 1, p.held);
            }
        } else if (mail.kind == 1) {
            if (opened && p.open.next == null) {
                p.open.granted.putIfAbsent(mail.from, mail.held);
            }
        } else if (mail.kind == 2) {
            int many = p.held.book.size();
            if (locked && many < mail.held.book.size() && mail.held.book.subList(0, many).equals(p.held.book)) {
                p.lock = null;
                p.doubt = mail.number;
                p.doubted = mail.held;
                doubts = true;
            }
            if (doubts) {
                answer(mail, 3, null);
            }
        } else if (mail.kind == 3) {
            if (opened && p.open.next != null && p.open.group.contains(mail.from)) {
                p.open.prepared.add(mail.from);
                if (p.open.prepared.equals(p.open.group)) {
                    commit(mail.to);
                }
            }
        } else if (mail.kind == 4) {
            if (doubts) {
                p.held = p.doubted;
                p.doubt = null;
            }
        } else if (mail.kind == 5) {
            p.doubt = doubts ? null : p.doubt;
            p.lock = locked && p.open == null ? null : p.lock;
        } else if (p.held.has(mail.number)) {
            answer(mail, 4, null);
        } else if (mail.number % 5 == mail.to && !opened || p.held.book.size() >= mail.asked) {
            answer(mail, 5, null);
        }
    }

    void lose(int i) {
        mail(i);
        row.remove(i);
    }

    void twin(int i) {
        send(List.of(mail(i)));
    }

    int letter(int i, int what) {
        Mail mail = mail(i);
        if (what < 0 || what > 3) {
            throw new IllegalArgumentException();
        }
        return List.of(mail.kind, mail.from, mail.to, mail.number).get(what);
    }

    int count(int station) {
        return place(station).held.book.size();
    }

    int entry(int station, int k, boolean number) {
        List<Line> book = place(station).held.book;
        if (k < 0 || k >= book.size()) {
            throw new NoSuchElementException();
        }
        return number ? book.get(k).number : book.get(k).entry;
    }

    int about(int station, int what) {
        Place p = place(station);
        if (what < 0 || what > 6) {
            throw new IllegalArgumentException();
        }
        return List.of(p.held.size, p.held.named, p.began, p.doubt == null ? NONE : p.doubt,
                p.lock == null ? NONE : p.lock, p.open == null ? NONE : p.open.number, p.up ? 1 : 0).get(what);
    }

    boolean allowed(int mask) {
        if (mask < 0 || mask > 31) {
            throw new IllegalArgumentException();
        }
        TreeMap<Integer, Held> granted = new TreeMap<>();
        for (int s = 0; s < 5; s++) {
            if ((mask & 1 << s) != 0) {
                Place p = place(s);
                if (!p.up || p.lock != null || p.doubt != null) {
                    return false;
                }
                granted.put(s, p.held);
            }
        }
        return next(granted) != null;
    }

    int inForce(int station, int area, int day) {
        Held held = place(station).held;
        int many = 0;
        for (int k = 0; k < held.book.size(); k++) {
            int notice = held.book.get(k).entry;
            for (int from = 0; held.inForce(k) && from < 100; from++) {
                for (int to = 0; to < 100; to++) {
                    if (notice == area + 4 * from + 400 * to && area >= 0 && area < 4 && from <= day && day <= to) {
                        many++;
                    }
                }
            }
        }
        return many;
    }
}
