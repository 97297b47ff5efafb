/**
 * A log whose old rows are dropped, segment by segment, and readers who hold it back.
 * README.md tells how it is used; the promises stand in ../shared/DOC.md.
 */
public final class TrimmedLog {
    public static final int NONE = -1;

    private static final int KEYS = 8;
    private static final int NAMES = 8;
    private static final int SETTINGS = 6;
    private static final int MAX_ROWS = 200;
    private static final int MAX_VALUE = 99;
    private static final int MAX_LENGTH = 40;
    private static final int MAX_READ = 50;
    private static final int MAX_TICKS = 99;
    private static final int MAX_TEXT = 120;
    private static final int MAX_ROOM = 4000;
    private static final int MAX_FORESIGHT = 300;
    private static final int REMEMBERED = 14;
    private static final int SLOTS = 2;

    private static final int SEGMENT_ROWS = 0;
    private static final int SEGMENT_LENGTH = 1;
    private static final int DUE_AGE = 2;
    private static final int ROOM = 3;
    private static final int HOLD_LENGTH = 4;
    private static final int SLEEP = 5;
    private static final int[] AT_FIRST = {4, 100, 0, 400, 0, 0};
    private static final int[] LEAST = {1, 40, 0, 0, 0, 0};
    private static final int[] MOST = {8, 200, 99, 4000, 4000, 99};

    private static final int WRITE = 0;
    private static final int JOIN = 1;
    private static final int READ = 2;
    private static final int LEAVE = 3;
    private static final int HOLD = 4;
    private static final int SET = 5;
    private static final int TICKS = 6;

    private static final int FROM_FIRST = 0;
    private static final int FROM_END = 1;
    private static final int AGAIN = 2;

    private static final int FINE = 0;
    private static final int NOTHING_THERE = 1;
    private static final int OUT_OF_RANGE = 2;
    private static final int NOT_NOW = 3;

    private static final int NOT_LOST = 0;
    private static final int BY_LENGTH = 1;
    private static final int BY_SLEEP = 2;

    private static final int GOES = 0;
    private static final int NONE_CLOSED = 1;
    private static final int NOT_DUE = 2;
    private static final int HELD = 3;

    private final Text text = new Text();
    private final State state = new State();
    // One copy serves every question about what would be, so that asking makes no objects.
    private final State trial = new State();
    private final History history = new History();
    private final State[] slots = new State[SLOTS];
    private final boolean[] filled = new boolean[SLOTS];

    public TrimmedLog() {
        for (int i = 0; i < SLOTS; i++) {
            slots[i] = new State();
        }
    }

    // ---- text

    public int append(int c) throws IllegalArgumentException, IllegalStateException {
        if (!isIn(c, 0, 255)) {
            throw new IllegalArgumentException("c is not 0 to 255");
        }
        if (text.isFull()) {
            throw new IllegalStateException("the text is full");
        }
        return text.add((char) c);
    }

    public int clearText() {
        return text.empty();
    }

    public int errorPosition() {
        return text.findError();
    }

    public int load() throws IllegalStateException {
        if (text.findError() != NONE) {
            throw new IllegalStateException("the text is not a log");
        }
        state.renew();
        history.forget();
        for (int i = 0; i < SLOTS; i++) {
            filled[i] = false;
        }
        return text.runOn(state);
    }

    // ---- what there is

    public int about(int what) throws IllegalArgumentException {
        if (!isIn(what, 0, 11)) {
            throw new IllegalArgumentException("what is not 0 to 11");
        }
        return state.number(what);
    }

    public int rowOf(int i, int what) throws IndexOutOfBoundsException, IllegalArgumentException {
        if (!state.log.hasRow(i)) {
            throw new IndexOutOfBoundsException("the log has no such row");
        }
        if (!isIn(what, 0, 5)) {
            throw new IllegalArgumentException("what is not 0 to 5");
        }
        return what == 5 ? state.holdersUpTo(i) : state.log.rowNumber(i, what);
    }

    public int segmentOf(int k, int what) throws IndexOutOfBoundsException, IllegalArgumentException {
        if (!isIn(k, 0, state.log.segments() - 1)) {
            throw new IndexOutOfBoundsException("there is no such segment");
        }
        if (!isIn(what, 0, 5)) {
            throw new IllegalArgumentException("what is not 0 to 5");
        }
        return state.segmentNumber(k, what);
    }

    public int readerOf(int name, int what) throws IndexOutOfBoundsException, IllegalArgumentException {
        Reader r = state.reader(name);
        if (r == null) {
            throw new IndexOutOfBoundsException("there is no such reader");
        }
        if (!isIn(what, 0, 8)) {
            throw new IllegalArgumentException("what is not 0 to 8");
        }
        return state.readerNumber(r, what);
    }

    public int table(int name, int key) throws IndexOutOfBoundsException, IllegalArgumentException {
        Reader r = state.reader(name);
        if (r == null) {
            throw new IndexOutOfBoundsException("there is no such reader");
        }
        if (!isIn(key, 0, KEYS - 1)) {
            throw new IllegalArgumentException("key is not 0 to 7");
        }
        return at(r.values, key);
    }

    public int base(int key) throws IllegalArgumentException {
        if (!isIn(key, 0, KEYS - 1)) {
            throw new IllegalArgumentException("key is not 0 to 7");
        }
        return at(state.log.dropValues, key);
    }

    public int setting(int what) throws IllegalArgumentException {
        if (!isIn(what, 0, SETTINGS - 1)) {
            throw new IllegalArgumentException("what is not 0 to 5");
        }
        return at(state.settings, what);
    }

    // ---- actions

    public int write(int key, int value, int length) throws IllegalArgumentException, IllegalStateException {
        return act(WRITE, key, value, length);
    }

    public int join(int name, int how, boolean held) throws IllegalArgumentException, IllegalStateException {
        return act(JOIN, name, how, asNumber(held));
    }

    public int read(int name, int n) throws IndexOutOfBoundsException, IllegalArgumentException {
        return act(READ, name, n, 0);
    }

    public int leave(int name) throws IndexOutOfBoundsException {
        return act(LEAVE, name, 0, 0);
    }

    public int hold(int name, boolean held) throws IndexOutOfBoundsException, IllegalStateException {
        return act(HOLD, name, asNumber(held), 0);
    }

    public int set(int what, int v) throws IllegalArgumentException {
        return act(SET, what, v, 0);
    }

    public int ticks(int n) throws IllegalArgumentException {
        return act(TICKS, n, 0, 0);
    }

    public int undo() throws IllegalStateException {
        if (history.count == 0) {
            throw new IllegalStateException("no state is remembered");
        }
        return history.takeBack(state);
    }

    // ---- what would be

    public int why() {
        return state.firstStays();
    }

    public int slowest() {
        return state.slowestHolder();
    }

    public int truth(int key, int row, int way) throws IndexOutOfBoundsException, IllegalArgumentException {
        if (!isIn(row, state.log.first, state.log.end)) {
            throw new IndexOutOfBoundsException("row is not from the first row to the end");
        }
        if (!isIn(key, 0, KEYS - 1) || !isIn(way, 0, 1)) {
            throw new IllegalArgumentException("key is not 0 to 7, or way is not 0 or 1");
        }
        return way == 0 ? state.log.toldForwards(key, row) : state.log.toldBackwards(key, row);
    }

    public int droppedIn() {
        State s = copyToTry();
        for (int n = 1; n <= MAX_FORESIGHT; n++) {
            if (s.passTime(1) > 0) {
                return n;
            }
        }
        return NONE;
    }

    public int lostIn(int name) throws IndexOutOfBoundsException {
        if (state.reader(name) == null) {
            throw new IndexOutOfBoundsException("there is no such reader");
        }
        State s = copyToTry();
        if (!s.hasHold(name)) {
            return NONE;
        }
        for (int n = 1; n <= MAX_FORESIGHT; n++) {
            s.passTime(1);
            if (!s.hasHold(name)) {
                return n;
            }
        }
        return NONE;
    }

    public int ifFree(int name) throws IndexOutOfBoundsException {
        if (state.reader(name) == null) {
            throw new IndexOutOfBoundsException("there is no such reader");
        }
        State s = copyToTry();
        s.attempt(HOLD, name, 0, 0);
        return s.passTime(1);
    }

    public int leastRoom(int n) throws IllegalArgumentException {
        if (!isIn(n, 1, 200)) {
            throw new IllegalArgumentException("n is not 1 to 200");
        }
        if (dropsNone(0, n)) {
            return 0;
        }
        // Until something is dropped the log's length stays as it is, so a setting below it
        // does what 0 does, and every other one what that very length does.
        int length = state.log.length;
        return length <= MAX_ROOM && dropsNone(length, n) ? length : NONE;
    }

    // ---- scripts, simulations

    public int runScript(int n, long script) throws IllegalArgumentException {
        if (!isIn(n, 1, 3)) {
            throw new IllegalArgumentException("n is not 1 to 3");
        }
        if (script < 0 || withoutGroups(script, n) > 0) {
            throw new IllegalArgumentException("script is not a number of at most 6 * n digits");
        }
        State s = copyToTry();
        for (int i = 0; i < n; i++) {
            int group = (int) (withoutGroups(script, n - 1 - i) % 1000000L);
            if (!succeeds(s, group)) {
                return i;
            }
        }
        return NONE;
    }

    public int simulate(long seed, int m) throws IllegalArgumentException {
        if (!isIn(m, 1, 60)) {
            throw new IllegalArgumentException("m is not 1 to 60");
        }
        State s = copyToTry();
        long x = seed;
        for (int i = 0; i < m; i++) {
            x = x * 6364136223846793005L + 1442695040888963407L;
            takeTurn(s, (int) (x >>> 33));
        }
        int dropped = s.log.dropped - state.log.dropped;
        int missed = Math.min(s.missed - state.missed, 99);
        return 10000 * dropped + 100 * missed + s.readerCount();
    }

    // ---- save slots

    public int save(int slot) throws IndexOutOfBoundsException {
        if (!isIn(slot, 0, SLOTS - 1)) {
            throw new IndexOutOfBoundsException("there is no such save slot");
        }
        State kept = slots[slot];
        if (kept != null) {
            kept.takeOver(state);
        }
        filled[slot] = true;
        return state.time;
    }

    public int restore(int slot) throws IndexOutOfBoundsException, IllegalStateException {
        if (!isIn(slot, 0, SLOTS - 1)) {
            throw new IndexOutOfBoundsException("there is no such save slot");
        }
        if (!filled[slot]) {
            throw new IllegalStateException("nothing has been saved in it since the last load");
        }
        state.takeOver(slots[slot]);
        history.forget();
        return state.time;
    }

    // ---- what the face is made of

    private int act(int action, int a, int b, int c) {
        int fault = state.faultOf(action, a, b, c);
        if (fault == NOTHING_THERE) {
            throw new IndexOutOfBoundsException("there is no such reader");
        }
        if (fault == OUT_OF_RANGE) {
            throw new IllegalArgumentException("an argument is out of its range");
        }
        if (fault == NOT_NOW) {
            throw new IllegalStateException("the log does not allow it now");
        }
        history.remember(state);
        return state.perform(action, a, b, c);
    }

    private State copyToTry() {
        trial.takeOver(state);
        return trial;
    }

    private boolean dropsNone(int room, int n) {
        State s = copyToTry();
        s.attempt(SET, ROOM, room, 0);
        return s.passTime(n) == 0;
    }

    private static long withoutGroups(long script, int groups) {
        long rest = script;
        for (int i = 0; i < groups; i++) {
            rest /= 1000000L;
        }
        return rest;
    }

    private static boolean succeeds(State s, int group) {
        int second = group / 10000 % 10;
        int last = group % 10;
        int lastTwo = group % 100;
        int lastThree = group % 1000;
        boolean noThirdFourth = group / 100 % 100 == 0;
        switch (group / 100000) {
            case 1:
                return s.attempt(WRITE, second, group / 100 % 100, lastTwo);
            case 2:
                return noThirdFourth && s.getsFurther(second, lastTwo);
            case 3:
                return group / 10 % 100 == 0 && last <= 1 && s.attempt(JOIN, second, group / 1000 % 10, last);
            case 4:
                return group % 10000 == 0 && s.attempt(LEAVE, second, 0, 0);
            case 5:
                return group / 100 % 1000 == 0 && s.attempt(TICKS, lastTwo, 0, 0);
            case 6:
                return group / 1000 % 10 == 0 && s.isAtLeastAt(second, lastThree);
            case 7:
                return noThirdFourth && second < KEYS && s.log.toldForwards(second, s.log.end) == lastTwo;
            case 8:
                return group / 1000 % 100 == 0 && s.log.first >= lastThree;
            case 9:
                return group / 10 % 1000 == 0 && last <= 1 && s.reader(second) != null
                        && s.hasHold(second) == (last == 1);
            default:
                return false;
        }
    }

    private static void takeTurn(State s, int r) {
        int q = r / 16;
        int kind = r % 16;
        if (kind <= 5) {
            s.attempt(WRITE, q % 8, q / 8 % 100, 1 + q / 1024 % 40);
        } else if (kind <= 7) {
            s.attempt(JOIN, q % 8, q / 8 % 3, q / 32 % 2);
        } else if (kind <= 9) {
            s.attempt(READ, q % 8, 1 + q / 8 % 12, 0);
        } else if (kind == 10 && q / 8 % 4 == 0) {
            s.attempt(LEAVE, q % 8, 0, 0);
        } else if (kind == 10) {
            s.attempt(HOLD, q % 8, q / 32 % 2, 0);
        } else if (kind == 11 && q / 1024 % 2 == 0) {
            s.attempt(SET, ROOM, q % 600, 0);
        } else if (kind == 11) {
            s.attempt(SET, DUE_AGE, q % 20, 0);
        } else {
            s.attempt(TICKS, 1 + q % 8, 0, 0);
        }
    }

    private static boolean isIn(int n, int least, int most) {
        return n >= least && n <= most;
    }

    private static int asNumber(boolean b) {
        return b ? 1 : 0;
    }

    // The machine must not throw, whatever the index: outside of the list there is NONE.
    private static int at(int[] list, int i) {
        return i >= 0 && i < list.length ? list[i] : NONE;
    }

    private static void put(int[] list, int i, int v) {
        if (i >= 0 && i < list.length) {
            list[i] = v;
        }
    }

    private static void copy(int[] from, int[] to) {
        System.arraycopy(from, 0, to, 0, Math.min(from.length, to.length));
    }

    /** The rows ever written, by number, the segments over them, and the base. */
    private static final class Log {
        final int[] keys = new int[MAX_ROWS];
        final int[] values = new int[MAX_ROWS];
        final int[] times = new int[MAX_ROWS];
        // The length of all rows below a row, dropped ones too: that of any rows is one difference.
        final int[] lengthsBelow = new int[MAX_ROWS + 1];
        // The first rows of all segments, the dropped ones too: dropping one is counting it.
        final int[] starts = new int[MAX_ROWS];
        final int[] dropValues = new int[KEYS];
        // Where the log begins: only closed segments go, so the one behind tells it from then on.
        int first;
        int end;
        int length;
        int begun;
        int dropped;

        void renew() {
            first = 0;
            end = 0;
            length = 0;
            begun = 0;
            dropped = 0;
            for (int key = 0; key < KEYS; key++) {
                dropValues[key] = NONE;
            }
        }

        void takeOver(Log other) {
            copy(other.keys, keys);
            copy(other.values, values);
            copy(other.times, times);
            copy(other.lengthsBelow, lengthsBelow);
            copy(other.starts, starts);
            copy(other.dropValues, dropValues);
            first = other.first;
            end = other.end;
            length = other.length;
            begun = other.begun;
            dropped = other.dropped;
        }

        int segments() {
            return begun - dropped;
        }

        boolean hasRow(int i) {
            return i >= first && i < end;
        }

        int startOf(int k) {
            int i = dropped + k;
            return i >= 0 && i < begun && i < MAX_ROWS ? starts[i] : end;
        }

        int endOf(int k) {
            return startOf(k + 1);
        }

        int lengthOf(int from, int to) {
            return at(lengthsBelow, to) - at(lengthsBelow, from);
        }

        int lengthFrom(int row) {
            return row > first ? at(lengthsBelow, end) - at(lengthsBelow, row) : length;
        }

        int startAround(int row) {
            int start = first;
            for (int k = 0; k < segments() && startOf(k) <= row; k++) {
                start = startOf(k);
            }
            return start;
        }

        int rowNumber(int i, int what) {
            switch (what) {
                case 0:
                    return at(keys, i);
                case 1:
                    return at(values, i);
                case 2:
                    return lengthOf(i, i + 1);
                case 3:
                    return at(times, i);
                default:
                    return startAround(i);
            }
        }

        int add(int key, int value, int rowLength, int time) {
            int row = end;
            put(keys, row, key);
            put(values, row, value);
            put(times, row, time);
            put(lengthsBelow, row + 1, at(lengthsBelow, row) + rowLength);
            end = row + 1;
            length += rowLength;
            return row;
        }

        void makeRoomFor(int rowLength, int mostRows, int mostLength) {
            int start = at(starts, begun - 1);
            if (begun == 0 || end - start >= mostRows || lengthOf(start, end) + rowLength > mostLength) {
                put(starts, begun, end);
                begun++;
            }
        }

        void dropFirst() {
            int behind = endOf(0);
            for (int i = first; i < behind; i++) {
                put(dropValues, at(keys, i), at(values, i));
            }
            length -= lengthOf(first, behind);
            first = behind;
            dropped++;
        }

        int toldForwards(int key, int row) {
            int value = at(dropValues, key);
            for (int i = first; i < row; i++) {
                if (at(keys, i) == key) {
                    value = at(values, i);
                }
            }
            return value;
        }

        int toldBackwards(int key, int row) {
            for (int i = row - 1; i >= first; i--) {
                if (at(keys, i) == key) {
                    return at(values, i);
                }
            }
            return at(dropValues, key);
        }
    }

    /** What is known by a name: place and values stay when the reader leaves, as it may come again. */
    private static final class Reader {
        final int[] values = new int[KEYS];
        boolean present;
        boolean hasLeft;
        boolean held;
        int place;
        int readSoFar;
        int missedSoFar;
        int lastRead;
        int lostBy;

        void renew() {
            present = false;
            hasLeft = false;
            held = false;
        }

        void takeOver(Reader other) {
            copy(other.values, values);
            present = other.present;
            hasLeft = other.hasLeft;
            held = other.held;
            place = other.place;
            readSoFar = other.readSoFar;
            missedSoFar = other.missedSoFar;
            lastRead = other.lastRead;
            lostBy = other.lostBy;
        }

        void arrive(int time, boolean withHold) {
            present = true;
            held = withHold;
            readSoFar = 0;
            missedSoFar = 0;
            lastRead = time;
            lostBy = NOT_LOST;
        }

        void depart() {
            present = false;
            hasLeft = true;
            held = false;
        }
    }

    /** Everything but the text and the save slots. */
    private static final class State {
        final Log log = new Log();
        final Reader[] readers = new Reader[NAMES];
        final int[] settings = new int[SETTINGS];
        int time;
        int lostByLength;
        int lostBySleep;
        int missed;

        State() {
            for (int name = 0; name < NAMES; name++) {
                readers[name] = new Reader();
            }
            renew();
        }

        void renew() {
            log.renew();
            for (int name = 0; name < NAMES; name++) {
                Reader r = readers[name];
                if (r != null) {
                    r.renew();
                }
            }
            copy(AT_FIRST, settings);
            time = 0;
            lostByLength = 0;
            lostBySleep = 0;
            missed = 0;
        }

        void takeOver(State other) {
            if (other == null) {
                return;
            }
            log.takeOver(other.log);
            for (int name = 0; name < NAMES; name++) {
                Reader r = readers[name];
                Reader o = other.readers[name];
                if (r != null && o != null) {
                    r.takeOver(o);
                }
            }
            copy(other.settings, settings);
            time = other.time;
            lostByLength = other.lostByLength;
            lostBySleep = other.lostBySleep;
            missed = other.missed;
        }

        Reader named(int name) {
            return name >= 0 && name < NAMES ? readers[name] : null;
        }

        Reader reader(int name) {
            Reader r = named(name);
            return r != null && r.present ? r : null;
        }

        boolean hasHold(int name) {
            Reader r = reader(name);
            return r != null && r.held;
        }

        boolean hasGap(int name) {
            Reader r = reader(name);
            return r != null && r.place < log.first;
        }

        boolean isAtLeastAt(int name, int place) {
            Reader r = reader(name);
            return r != null && r.place >= place;
        }

        int readerCount() {
            int n = 0;
            for (int name = 0; name < NAMES; name++) {
                n += asNumber(reader(name) != null);
            }
            return n;
        }

        int gapCount() {
            int n = 0;
            for (int name = 0; name < NAMES; name++) {
                n += asNumber(hasGap(name));
            }
            return n;
        }

        int holdersUpTo(int row) {
            int n = 0;
            for (int name = 0; name < NAMES; name++) {
                Reader r = readers[name];
                n += asNumber(r != null && r.held && r.place <= row);
            }
            return n;
        }

        int slowestHolder() {
            int slowest = NONE;
            int least = log.end + 1;
            for (int name = 0; name < NAMES; name++) {
                Reader r = reader(name);
                if (r != null && r.held && r.place < least) {
                    slowest = name;
                    least = r.place;
                }
            }
            return slowest;
        }

        int number(int what) {
            switch (what) {
                case 0:
                    return log.end;
                case 1:
                    return log.first;
                case 2:
                    return log.segments();
                case 3:
                    return log.length;
                case 4:
                    return readerCount();
                case 5:
                    return holdersUpTo(log.end);
                case 6:
                    return gapCount();
                case 7:
                    return time;
                case 8:
                    return log.dropped;
                case 9:
                    return lostByLength;
                case 10:
                    return lostBySleep;
                default:
                    return missed;
            }
        }

        int segmentNumber(int k, int what) {
            switch (what) {
                case 0:
                    return log.startOf(k);
                case 1:
                    return log.endOf(k) - log.startOf(k);
                case 2:
                    return log.lengthOf(log.startOf(k), log.endOf(k));
                case 3:
                    return asNumber(k < log.segments() - 1);
                case 4:
                    return asNumber(isDue(log.endOf(k) - 1));
                default:
                    return asNumber(holdersUpTo(log.endOf(k) - 1) > 0);
            }
        }

        int readerNumber(Reader r, int what) {
            switch (what) {
                case 0:
                    return r.place;
                case 1:
                    return asNumber(r.held);
                case 2:
                    return r.readSoFar;
                case 3:
                    return r.missedSoFar;
                case 4:
                    return r.lastRead;
                case 5:
                    return log.end - Math.max(r.place, log.first);
                case 6:
                    return log.lengthFrom(r.place);
                case 7:
                    return Math.max(log.first - r.place, 0);
                default:
                    return r.lostBy;
            }
        }

        boolean isDue(int lastRow) {
            int age = at(settings, DUE_AGE);
            return log.length > at(settings, ROOM) || age > 0 && time - at(log.times, lastRow) >= age;
        }

        int firstStays() {
            if (log.segments() < 2) {
                return NONE_CLOSED;
            }
            int lastRow = log.endOf(0) - 1;
            if (!isDue(lastRow)) {
                return NOT_DUE;
            }
            return holdersUpTo(lastRow) > 0 ? HELD : GOES;
        }

        int faultOf(int action, int a, int b, int c) {
            switch (action) {
                case WRITE:
                    return faultOfWriting(a, b, c);
                case JOIN:
                    return faultOfJoining(a, b, c == 1);
                case READ:
                    return reader(a) == null ? NOTHING_THERE : isIn(b, 1, MAX_READ) ? FINE : OUT_OF_RANGE;
                case LEAVE:
                    return reader(a) == null ? NOTHING_THERE : FINE;
                case HOLD:
                    return reader(a) == null ? NOTHING_THERE : b == 1 && hasGap(a) ? NOT_NOW : FINE;
                case SET:
                    return isIn(a, 0, SETTINGS - 1) && isIn(b, at(LEAST, a), at(MOST, a)) ? FINE : OUT_OF_RANGE;
                case TICKS:
                    return isIn(a, 1, MAX_TICKS) ? FINE : OUT_OF_RANGE;
                default:
                    return OUT_OF_RANGE;
            }
        }

        int faultOfWriting(int key, int value, int length) {
            if (!isIn(key, 0, KEYS - 1) || !isIn(value, 0, MAX_VALUE) || !isIn(length, 1, MAX_LENGTH)) {
                return OUT_OF_RANGE;
            }
            return log.end < MAX_ROWS ? FINE : NOT_NOW;
        }

        int faultOfJoining(int name, int how, boolean withHold) {
            Reader r = named(name);
            if (r == null || !isIn(how, FROM_FIRST, AGAIN)) {
                return OUT_OF_RANGE;
            }
            boolean again = how == AGAIN;
            if (r.present || again && !r.hasLeft || again && withHold && r.place < log.first) {
                return NOT_NOW;
            }
            return FINE;
        }

        boolean attempt(int action, int a, int b, int c) {
            if (faultOf(action, a, b, c) != FINE) {
                return false;
            }
            perform(action, a, b, c);
            return true;
        }

        boolean getsFurther(int name, int n) {
            return faultOf(READ, name, n, 0) == FINE && perform(READ, name, n, 0) != 0;
        }

        int perform(int action, int a, int b, int c) {
            switch (action) {
                case WRITE:
                    log.makeRoomFor(c, at(settings, SEGMENT_ROWS), at(settings, SEGMENT_LENGTH));
                    return log.add(a, b, c, time);
                case JOIN:
                    return letIn(named(a), b, c == 1);
                case READ:
                    return letRead(reader(a), b);
                case LEAVE:
                    return letGo(reader(a));
                case HOLD:
                    return changeHold(reader(a), b == 1);
                case SET:
                    return change(a, b);
                default:
                    return passTime(a);
            }
        }

        int letIn(Reader r, int how, boolean withHold) {
            if (r == null) {
                return NONE;
            }
            if (how == FROM_FIRST) {
                r.place = log.first;
                copy(log.dropValues, r.values);
            } else if (how == FROM_END) {
                r.place = log.end;
                for (int key = 0; key < KEYS; key++) {
                    put(r.values, key, log.toldForwards(key, log.end));
                }
            }
            r.arrive(time, withHold);
            return r.place;
        }

        int letRead(Reader r, int n) {
            if (r == null) {
                return 0;
            }
            r.lastRead = time;
            return r.place < log.first ? -tellGap(r) : readOn(r, Math.min(n, log.end - r.place));
        }

        int tellGap(Reader r) {
            int gap = log.first - r.place;
            r.missedSoFar += gap;
            missed += gap;
            r.place = log.first;
            copy(log.dropValues, r.values);
            return gap;
        }

        int readOn(Reader r, int n) {
            for (int i = 0; i < n; i++) {
                put(r.values, at(log.keys, r.place + i), at(log.values, r.place + i));
            }
            r.place += n;
            r.readSoFar += n;
            return n;
        }

        int letGo(Reader r) {
            if (r != null) {
                r.depart();
            }
            return readerCount();
        }

        int changeHold(Reader r, boolean withHold) {
            if (r == null) {
                return 0;
            }
            int before = asNumber(r.held);
            r.held = withHold;
            r.lostBy = NOT_LOST;
            return before;
        }

        int change(int what, int v) {
            int before = at(settings, what);
            put(settings, what, v);
            return before;
        }

        int passTime(int n) {
            int before = log.dropped;
            for (int i = 0; i < n; i++) {
                time++;
                for (int name = 0; name < NAMES; name++) {
                    checkHold(readers[name]);
                }
                // A segment has a row, so no tick drops more segments than there are rows.
                for (int k = 0; k < MAX_ROWS && firstStays() == GOES; k++) {
                    log.dropFirst();
                }
            }
            return log.dropped - before;
        }

        void checkHold(Reader r) {
            if (r == null || !r.held) {
                return;
            }
            int most = at(settings, HOLD_LENGTH);
            int sleep = at(settings, SLEEP);
            if (most > 0 && log.lengthFrom(r.place) > most) {
                r.lostBy = BY_LENGTH;
                lostByLength++;
            } else if (sleep > 0 && time - r.lastRead >= sleep) {
                r.lostBy = BY_SLEEP;
                lostBySleep++;
            } else {
                return;
            }
            r.held = false;
        }
    }

    /** The last states, in a ring, so that remembering one makes no objects. */
    private static final class History {
        final State[] states = new State[REMEMBERED];
        int next;
        int count;

        History() {
            for (int i = 0; i < REMEMBERED; i++) {
                states[i] = new State();
            }
        }

        void forget() {
            next = 0;
            count = 0;
        }

        void remember(State s) {
            State kept = stateAt(next);
            if (kept != null) {
                kept.takeOver(s);
            }
            next = (next + 1) % REMEMBERED;
            count = Math.min(count + 1, REMEMBERED);
        }

        int takeBack(State s) {
            next = (next + REMEMBERED - 1) % REMEMBERED;
            s.takeOver(stateAt(next));
            count--;
            return count;
        }

        State stateAt(int i) {
            return i >= 0 && i < REMEMBERED ? states[i] : null;
        }
    }

    /** The text, and the command of it that was understood last. */
    private static final class Text {
        final char[] signs = new char[MAX_TEXT];
        int length;
        int position;
        boolean wrong;
        int action;
        int a;
        int b;
        int c;

        boolean isFull() {
            return length >= MAX_TEXT;
        }

        int add(char sign) {
            if (length >= 0 && length < MAX_TEXT) {
                signs[length] = sign;
                length++;
            }
            return length;
        }

        int empty() {
            int before = length;
            length = 0;
            return before;
        }

        int findError() {
            begin();
            for (int i = 0; i < MAX_TEXT && hasMore(); i++) {
                understand();
            }
            return wrong ? position : NONE;
        }

        int runOn(State s) {
            int leftOut = 0;
            begin();
            for (int i = 0; i < MAX_TEXT && hasMore(); i++) {
                understand();
                leftOut += asNumber(!wrong && !s.attempt(action, a, b, c));
            }
            return leftOut;
        }

        void begin() {
            position = 0;
            wrong = sign() != 'G';
            if (!wrong) {
                position++;
            }
        }

        boolean hasMore() {
            return !wrong && position < length;
        }

        // Behind the text's end stands a sign that no rule allows.
        char sign() {
            return position >= 0 && position < length && position < MAX_TEXT ? signs[position] : 0;
        }

        void understand() {
            action = actionOf(sign());
            if (action == NONE) {
                wrong = true;
                return;
            }
            position++;
            b = 0;
            c = 0;
            if (action == TICKS) {
                a = digits(2, 1, MAX_TICKS);
            } else if (action == SET) {
                a = digits(1, 0, SETTINGS - 1);
                b = digits(4, 0, MAX_ROOM);
            } else {
                a = digits(1, 0, NAMES - 1);
                understandRest();
            }
        }

        void understandRest() {
            if (action == WRITE) {
                b = digits(2, 0, MAX_VALUE);
                c = digits(2, 1, MAX_LENGTH);
            } else if (action == JOIN) {
                b = digits(1, FROM_FIRST, AGAIN);
                c = plusOrMinus();
            } else if (action == READ) {
                b = digits(2, 1, MAX_READ);
            } else if (action == HOLD) {
                b = plusOrMinus();
            }
        }

        int actionOf(char letter) {
            switch (letter) {
                case 'w':
                    return WRITE;
                case 'j':
                    return JOIN;
                case 'r':
                    return READ;
                case 'l':
                    return LEAVE;
                case 'h':
                    return HOLD;
                case 's':
                    return SET;
                case 't':
                    return TICKS;
                default:
                    return NONE;
            }
        }

        int plusOrMinus() {
            char s = sign();
            if (wrong || s != '+' && s != '-') {
                wrong = true;
                return 0;
            }
            position++;
            return asNumber(s == '+');
        }

        int digits(int count, int least, int most) {
            int n = 0;
            int span = 1;
            for (int i = 0; i < count; i++) {
                span *= 10;
            }
            for (int i = 0; i < count && !wrong; i++) {
                span /= 10;
                char s = sign();
                int next = n * 10 + (s - '0');
                // From next * span on, span numbers begin with these digits: one must be allowed.
                if (s < '0' || s > '9' || next * span > most || next * span + span - 1 < least) {
                    wrong = true;
                } else {
                    n = next;
                    position++;
                }
            }
            return n;
        }
    }
}
