import java.util.Arrays;
import java.util.NoSuchElementException;

public final class NoticeStations {
    public static final int NONE = -1;

    private static final int STATIONS = 5;
    private static final int ALL = (1 << STATIONS) - 1;
    private static final int PLACES = 16;
    private static final int ROOM = 40;
    private static final int AREAS = 4;
    private static final int DAYS = 100;

    private static final int LOCK = 0;
    private static final int GRANT = 1;
    private static final int PREPARE = 2;
    private static final int PREPARED = 3;
    private static final int COMMIT = 4;
    private static final int ABORT = 5;
    private static final int ASK = 6;

    private final Station[] stations;
    private final int[] cables;
    private final Row row;
    private final Version[] supposed;

    public NoticeStations() {
        Version first = new Version(new int[0], new int[0], STATIONS, 0);
        stations = new Station[STATIONS];
        cables = new int[STATIONS];
        for (int s = 0; s < STATIONS; s++) {
            stations[s] = new Station(s, first);
            cables[s] = ALL;
        }
        row = new Row();
        supposed = new Version[STATIONS];
    }

    public boolean cable(int a, int b, boolean up) throws IndexOutOfBoundsException {
        checkStation(a);
        checkStation(b);
        if (a == b) {
            throw new IndexOutOfBoundsException();
        }
        if (has(cables[a], b) == up) {
            return false;
        }
        cables[a] ^= 1 << b;
        cables[b] ^= 1 << a;
        return true;
    }

    public int write(int station, int area, int from, int to)
            throws IndexOutOfBoundsException, IllegalArgumentException, IllegalStateException,
            UnsupportedOperationException {
        checkStation(station);
        if (area < 0 || area >= AREAS || !isDay(from) || !isDay(to)) {
            throw new IllegalArgumentException();
        }
        return begin(stations[station], area + AREAS * from + AREAS * DAYS * to);
    }

    public int withdraw(int station, int k)
            throws IndexOutOfBoundsException, NoSuchElementException, IllegalStateException,
            UnsupportedOperationException {
        checkStation(station);
        if (!stations[station].stored.hasNotice(k) || stations[station].stored.isWithdrawn(k)) {
            throw new NoSuchElementException();
        }
        return begin(stations[station], -1 - k);
    }

    public boolean decide(int station)
            throws IndexOutOfBoundsException, IllegalStateException, UnsupportedOperationException {
        checkStation(station);
        OpenWrite open = stations[station].open;
        if (!open.collects()) {
            throw new IllegalStateException();
        }
        Version newest = newestOf(open.granted);
        if (newest == null || !mayGoOn(newest, holdersOf(open.granted, newest))) {
            return false;
        }
        if (newest.places() >= PLACES) {
            throw new UnsupportedOperationException();
        }
        int group = open.granters();
        int others = without(group, station);
        checkRoom(Integer.bitCount(others));
        open.prepare(newest.followedBy(open.entry, open.number, group), group, station);
        sendToEach(others, PREPARE, station, open.number, open.next);
        commitIfReady(stations[station]);
        return true;
    }

    public void giveUp(int station)
            throws IndexOutOfBoundsException, IllegalStateException, UnsupportedOperationException {
        checkStation(station);
        Station writer = stations[station];
        checkOpen(writer);
        int others = without(ALL, station);
        checkRoom(Integer.bitCount(others));
        sendToEach(others, ABORT, station, writer.open.number, null);
        writer.forget();
    }

    public int resend(int station)
            throws IndexOutOfBoundsException, IllegalStateException, UnsupportedOperationException {
        checkStation(station);
        OpenWrite open = stations[station].open;
        checkOpen(stations[station]);
        boolean collects = open.collects();
        int missing = collects ? ALL & ~open.granters() : open.group & ~open.ready;
        int many = Integer.bitCount(missing);
        checkRoom(many);
        sendToEach(missing, collects ? LOCK : PREPARE, station, open.number, open.next);
        return many;
    }

    public void unlock(int station) throws IndexOutOfBoundsException, IllegalStateException {
        checkStation(station);
        if (stations[station].lock == NONE || stations[station].open.isThere()) {
            throw new IllegalStateException();
        }
        stations[station].lock = NONE;
    }

    public void ask(int station, int other)
            throws IndexOutOfBoundsException, IllegalStateException, UnsupportedOperationException {
        checkStation(station);
        checkStation(other);
        if (station == other) {
            throw new IndexOutOfBoundsException();
        }
        Station asker = stations[station];
        if (!asker.up || !asker.isInDoubt()) {
            throw new IllegalStateException();
        }
        checkRoom(1);
        row.put(ASK, station, other, asker.preparedFor, asker.prepared);
    }

    public boolean stop(int station) throws IndexOutOfBoundsException {
        checkStation(station);
        boolean was = stations[station].up;
        stations[station].up = false;
        stations[station].forget();
        return was;
    }

    public boolean start(int station) throws IndexOutOfBoundsException {
        checkStation(station);
        boolean was = stations[station].up;
        stations[station].up = true;
        stations[station].forget();
        return !was;
    }

    public int letters() {
        return row.used;
    }

    public int deliver(int i)
            throws IndexOutOfBoundsException, IllegalStateException, UnsupportedOperationException {
        checkLetter(i);
        Letter letter = row.at[i];
        Station receiver = stations[letter.to];
        if (!receiver.up || !inOnePiece(letter.from, letter.to)) {
            throw new IllegalStateException();
        }
        if (letter.kind == PREPARED && receiver.open.isLastPrepared(letter)) {
            // the delivered letter makes room for one of the commits
            checkRoom(Integer.bitCount(receiver.open.group) - 2);
        }
        row.takeOut(i);
        receive(receiver, letter);
        return letter.kind;
    }

    public void lose(int i) throws IndexOutOfBoundsException {
        checkLetter(i);
        row.takeOut(i);
    }

    public void twin(int i) throws IndexOutOfBoundsException, UnsupportedOperationException {
        checkLetter(i);
        checkRoom(1);
        Letter letter = row.at[i];
        row.put(letter.kind, letter.from, letter.to, letter.number, letter.content);
    }

    public int letter(int i, int what) throws IndexOutOfBoundsException, IllegalArgumentException {
        checkLetter(i);
        switch (what) {
            case 0:
                return row.at[i].kind;
            case 1:
                return row.at[i].from;
            case 2:
                return row.at[i].to;
            case 3:
                return row.at[i].number;
            default:
                throw new IllegalArgumentException();
        }
    }

    public int count(int station) throws IndexOutOfBoundsException {
        checkStation(station);
        return stations[station].stored.places();
    }

    public int entry(int station, int k, boolean number)
            throws IndexOutOfBoundsException, NoSuchElementException {
        checkStation(station);
        Version stored = stations[station].stored;
        if (k < 0 || k >= stored.places()) {
            throw new NoSuchElementException();
        }
        return number ? stored.numbers[k] : stored.entries[k];
    }

    public int about(int station, int what) throws IndexOutOfBoundsException, IllegalArgumentException {
        checkStation(station);
        Station one = stations[station];
        switch (what) {
            case 0:
                return one.stored.size;
            case 1:
                return one.stored.named;
            case 2:
                return one.began;
            case 3:
                return one.preparedFor;
            case 4:
                return one.lock;
            case 5:
                return one.open.number;
            case 6:
                return one.up ? 1 : 0;
            default:
                throw new IllegalArgumentException();
        }
    }

    public boolean allowed(int mask) throws IllegalArgumentException {
        if (mask < 0 || mask > ALL) {
            throw new IllegalArgumentException();
        }
        for (int s = 0; s < STATIONS; s++) {
            supposed[s] = null;
            if (has(mask, s)) {
                if (!stations[s].isFree()) {
                    return false;
                }
                supposed[s] = stations[s].stored;
            }
        }
        Version newest = newestOf(supposed);
        return newest != null && mayGoOn(newest, holdersOf(supposed, newest));
    }

    public int inForce(int station, int area, int day) throws IndexOutOfBoundsException {
        checkStation(station);
        Version stored = stations[station].stored;
        int many = 0;
        for (int k = 0; k < stored.places(); k++) {
            if (stored.hasNotice(k) && isNoticeOf(stored.entries[k], area, day) && !stored.isWithdrawn(k)) {
                many++;
            }
        }
        return many;
    }

    private static boolean has(int mask, int station) {
        return (mask >> station & 1) != 0;
    }

    private static int without(int mask, int station) {
        return mask & ~(1 << station);
    }

    private static boolean isDay(int day) {
        return day >= 0 && day < DAYS;
    }

    private static boolean isNoticeOf(int notice, int area, int day) {
        int from = notice / AREAS % DAYS;
        int to = notice / (AREAS * DAYS);
        return notice % AREAS == area && from <= day && day <= to;
    }

    private static void checkStation(int station) {
        if (station < 0 || station >= STATIONS) {
            throw new IndexOutOfBoundsException();
        }
    }

    private void checkLetter(int i) {
        if (i < 0 || i >= row.used) {
            throw new IndexOutOfBoundsException();
        }
    }

    private void checkRoom(int more) {
        if (row.used + more > ROOM) {
            throw new UnsupportedOperationException();
        }
    }

    private static void checkOpen(Station writer) {
        if (!writer.open.isThere()) {
            throw new IllegalStateException();
        }
    }

    private boolean inOnePiece(int a, int b) {
        int reached = 1 << a;
        for (int round = 1; round < STATIONS; round++) {
            for (int s = 0; s < STATIONS; s++) {
                if (has(reached, s)) {
                    reached |= cables[s];
                }
            }
        }
        return has(reached, b);
    }

    private int begin(Station writer, int entry) {
        if (!writer.isFree()) {
            throw new IllegalStateException();
        }
        if (writer.stored.places() >= PLACES) {
            throw new UnsupportedOperationException();
        }
        int others = without(ALL, writer.self);
        checkRoom(Integer.bitCount(others));
        writer.began++;
        int number = STATIONS * writer.began + writer.self;
        writer.lock = number;
        writer.open.collect(number, entry);
        writer.open.granted[writer.self] = writer.stored;
        sendToEach(others, LOCK, writer.self, number, null);
        return number;
    }

    private static Version newestOf(Version[] granted) {
        Version newest = null;
        for (int s = 0; s < granted.length; s++) {
            Version one = granted[s];
            if (one != null && (newest == null || one.places() > newest.places())) {
                newest = one;
            }
        }
        return newest;
    }

    private static int holdersOf(Version[] granted, Version newest) {
        int holders = 0;
        for (int s = 0; s < granted.length; s++) {
            Version one = granted[s];
            if (one != null && one.places() == newest.places()) {
                holders |= 1 << s;
            }
        }
        return holders;
    }

    private static boolean mayGoOn(Version newest, int holders) {
        int twice = 2 * Integer.bitCount(holders);
        return twice > newest.size || twice == newest.size && has(holders, newest.named);
    }

    private void commitIfReady(Station writer) {
        OpenWrite open = writer.open;
        if (open.next == null || open.ready != open.group) {
            return;
        }
        writer.stored = open.next;
        sendToEach(without(open.group, writer.self), COMMIT, writer.self, open.number, null);
        writer.forget();
    }

    private void sendToEach(int receivers, int kind, int from, int number, Version content) {
        for (int s = 0; s < STATIONS; s++) {
            if (has(receivers, s)) {
                row.put(kind, from, s, number, content);
            }
        }
    }

    private void sendBack(Letter letter, int kind, Version content) {
        row.put(kind, letter.to, letter.from, letter.number, content);
    }

    private void receive(Station receiver, Letter letter) {
        switch (letter.kind) {
            case LOCK:
                receiveLock(receiver, letter);
                break;
            case GRANT:
                receiver.open.grant(letter);
                break;
            case PREPARE:
                receivePrepare(receiver, letter);
                break;
            case PREPARED:
                receiver.open.markPrepared(letter);
                commitIfReady(receiver);
                break;
            case COMMIT:
                receiveCommit(receiver, letter);
                break;
            case ABORT:
                receiveAbort(receiver, letter);
                break;
            default:
                receiveAsk(receiver, letter);
                break;
        }
    }

    private void receiveLock(Station receiver, Letter letter) {
        if (receiver.isFree()) {
            receiver.lock = letter.number;
        }
        if (receiver.lock == letter.number && !receiver.open.isThere()) {
            sendBack(letter, GRANT, receiver.stored);
        }
    }

    private void receivePrepare(Station receiver, Letter letter) {
        Version next = letter.content;
        if (next != null && receiver.lock == letter.number && receiver.stored.isBeginningOf(next)) {
            receiver.lock = NONE;
            receiver.preparedFor = letter.number;
            receiver.prepared = next;
        }
        if (receiver.preparedFor == letter.number) {
            sendBack(letter, PREPARED, null);
        }
    }

    private static void receiveCommit(Station receiver, Letter letter) {
        if (receiver.preparedFor == letter.number && receiver.prepared != null) {
            receiver.stored = receiver.prepared;
            receiver.endDoubt();
        }
    }

    private static void receiveAbort(Station receiver, Letter letter) {
        if (receiver.preparedFor == letter.number) {
            receiver.endDoubt();
        }
        if (receiver.lock == letter.number && !receiver.open.isThere()) {
            receiver.lock = NONE;
        }
    }

    private void receiveAsk(Station receiver, Letter letter) {
        if (receiver.stored.hasNumber(letter.number)) {
            sendBack(letter, COMMIT, null);
            return;
        }
        boolean ended = letter.number % STATIONS == receiver.self && letter.number != receiver.open.number;
        boolean overtaken = letter.content != null && receiver.stored.places() >= letter.content.places();
        if (ended || overtaken) {
            sendBack(letter, ABORT, null);
        }
    }

    // A book travels only together with its size and named station. Nothing in
    // a version changes, so stations, letters and open writes share one object.
    private static final class Version {
        final int[] entries;
        final int[] numbers;
        final int size;
        final int named;

        Version(int[] entries, int[] numbers, int size, int named) {
            this.entries = entries;
            this.numbers = numbers;
            this.size = size;
            this.named = named;
        }

        int places() {
            return entries.length;
        }

        boolean hasNotice(int k) {
            return k >= 0 && k < entries.length && entries[k] >= 0;
        }

        boolean isWithdrawn(int k) {
            for (int place = 0; place < entries.length; place++) {
                if (entries[place] == -1 - k) {
                    return true;
                }
            }
            return false;
        }

        boolean hasNumber(int number) {
            for (int place = 0; place < numbers.length; place++) {
                if (numbers[place] == number) {
                    return true;
                }
            }
            return false;
        }

        boolean isBeginningOf(Version other) {
            if (places() >= other.places()) {
                return false;
            }
            for (int place = 0; place < entries.length; place++) {
                if (entries[place] != other.entries[place] || numbers[place] != other.numbers[place]) {
                    return false;
                }
            }
            return true;
        }

        Version followedBy(int entry, int number, int group) {
            int last = entries.length;
            int[] nextEntries = Arrays.copyOf(entries, last + 1);
            int[] nextNumbers = Arrays.copyOf(numbers, last + 1);
            nextEntries[last] = entry;
            nextNumbers[last] = number;
            return new Version(nextEntries, nextNumbers, Integer.bitCount(group),
                    Integer.numberOfTrailingZeros(group));
        }
    }

    // Each station has one of these for all its writes; NONE as its number says
    // that no write is open, and next is null as long as it collects.
    private static final class OpenWrite {
        int number = NONE;
        int entry;
        final Version[] granted = new Version[STATIONS];
        Version next;
        int group;
        int ready;

        boolean isThere() {
            return number != NONE;
        }

        boolean collects() {
            return number != NONE && next == null;
        }

        void clear() {
            number = NONE;
            next = null;
            group = 0;
            ready = 0;
            for (int s = 0; s < STATIONS; s++) {
                granted[s] = null;
            }
        }

        void collect(int newNumber, int newEntry) {
            number = newNumber;
            entry = newEntry;
        }

        void prepare(Version newVersion, int newGroup, int self) {
            next = newVersion;
            group = newGroup;
            ready = 1 << self;
        }

        int granters() {
            int mask = 0;
            for (int s = 0; s < STATIONS; s++) {
                if (granted[s] != null) {
                    mask |= 1 << s;
                }
            }
            return mask;
        }

        void grant(Letter letter) {
            if (collects() && number == letter.number && granted[letter.from] == null) {
                granted[letter.from] = letter.content;
            }
        }

        boolean takesPrepared(Letter letter) {
            return number == letter.number && next != null && has(group, letter.from);
        }

        boolean isLastPrepared(Letter letter) {
            return takesPrepared(letter) && (ready | 1 << letter.from) == group;
        }

        void markPrepared(Letter letter) {
            if (takesPrepared(letter)) {
                ready |= 1 << letter.from;
            }
        }
    }

    private static final class Station {
        final int self;
        final OpenWrite open = new OpenWrite();
        boolean up = true;
        int lock = NONE;
        Version stored;
        int began;
        int preparedFor = NONE;
        Version prepared;

        Station(int self, Version first) {
            this.self = self;
            this.stored = first;
        }

        boolean isInDoubt() {
            return preparedFor != NONE;
        }

        boolean isFree() {
            return up && lock == NONE && !isInDoubt();
        }

        void endDoubt() {
            preparedFor = NONE;
            prepared = null;
        }

        void forget() {
            lock = NONE;
            open.clear();
        }
    }

    // The content is what a GRANT or PREPARE brings; an ASK has the version that
    // its sender is prepared for, of which only the number of places is looked at.
    private static final class Letter {
        int kind;
        int from;
        int to;
        int number;
        Version content;
    }

    // The letters are made once and used again. There is one more than can lie in
    // the row: the one taken out goes to the very end, where no answer overwrites it.
    private static final class Row {
        final Letter[] at = new Letter[ROOM + 1];
        int used;

        Row() {
            for (int i = 0; i <= ROOM; i++) {
                at[i] = new Letter();
            }
        }

        void put(int kind, int from, int to, int number, Version content) {
            Letter letter = at[used];
            letter.kind = kind;
            letter.from = from;
            letter.to = to;
            letter.number = number;
            letter.content = content;
            used++;
        }

        void takeOut(int i) {
            Letter taken = at[i];
            for (int j = i; j < ROOM; j++) {
                at[j] = at[j + 1];
            }
            at[ROOM] = taken;
            used--;
        }
    }
}
