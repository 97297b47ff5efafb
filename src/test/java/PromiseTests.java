import java.util.function.IntSupplier;

/** Each promise by hand: ordinary inputs, the edges, wrong inputs. What is due was worked out from the document. */
public final class PromiseTests {
    private static final Class<IllegalArgumentException> RANGE = IllegalArgumentException.class;
    private static final Class<IllegalStateException> STATE = IllegalStateException.class;
    private static final Class<IndexOutOfBoundsException> INDEX = IndexOutOfBoundsException.class;
    private static final int NONE = TrimmedLog.NONE;

    private static int promise;

    private PromiseTests() {
    }

    public static void main(String[] args) {
        Runnable[] tests = {
            PromiseTests::newObject, PromiseTests::append, PromiseTests::clearText, PromiseTests::errorPosition,
            PromiseTests::load, PromiseTests::about, PromiseTests::rowOf, PromiseTests::segmentOf,
            PromiseTests::readerOf, PromiseTests::table, PromiseTests::base, PromiseTests::setting,
            PromiseTests::write, PromiseTests::join, PromiseTests::read, PromiseTests::leave, PromiseTests::hold,
            PromiseTests::set, PromiseTests::ticks, PromiseTests::undo, PromiseTests::why, PromiseTests::slowest,
            PromiseTests::truth, PromiseTests::droppedIn, PromiseTests::lostIn, PromiseTests::ifFree,
            PromiseTests::leastRoom, PromiseTests::runScript, PromiseTests::simulate, PromiseTests::save,
            PromiseTests::restore};
        for (Runnable test : tests) {
            promise++;
            test.run();
        }
        Check.end("PromiseTests");
    }

    private static String here() {
        int line = StackWalker.getInstance().walk(frames -> frames
                .filter(f -> f.getClassName().equals("PromiseTests"))
                .skip(2).findFirst().map(StackWalker.StackFrame::getLineNumber).orElse(0));
        return "promise " + promise + ", PromiseTests line " + line;
    }

    private static void is(IntSupplier call, int want) {
        Check.due(here(), Check.answer(call), Integer.toString(want));
    }

    private static void no(TrimmedLog x, Class<? extends RuntimeException> want, IntSupplier call) {
        Check.refused(here(), x, want, call);
    }

    private static TrimmedLog log(String text) {
        return Check.loaded(text);
    }

    /** A log of n rows, of key i % 8, value i % 100, and this length, in a new object. */
    private static TrimmedLog rows(int n, int length) {
        TrimmedLog x = new TrimmedLog();
        for (int i = 0; i < n; i++) {
            x.write(i % 8, i % 100, length);
        }
        return x;
    }

    private static void newObject() {
        TrimmedLog x = new TrimmedLog();
        for (int what = 0; what <= 11; what++) {
            int w = what;
            is(() -> x.about(w), 0);
        }
        int[] settings = {4, 100, 0, 400, 0, 0};
        for (int what = 0; what <= 5; what++) {
            int w = what;
            is(() -> x.setting(w), settings[w]);
        }
        for (int n = 0; n <= 7; n++) {
            int k = n;
            is(() -> x.base(k), NONE);
            is(() -> x.truth(k, 0, 0), NONE);
            is(() -> x.truth(k, 0, 1), NONE);
            no(x, INDEX, () -> x.readerOf(k, 0));
            no(x, STATE, () -> x.join(k, 2, false));
        }
        no(x, INDEX, () -> x.rowOf(0, 0));
        no(x, INDEX, () -> x.segmentOf(0, 0));
        no(x, STATE, x::undo);
        no(x, STATE, () -> x.restore(0));
        no(x, STATE, () -> x.restore(1));
        is(x::errorPosition, 0);
        is(x::clearText, 0);
        is(x::why, 1);
        is(x::slowest, NONE);
        is(x::droppedIn, NONE);
        is(() -> NONE, -1);
    }

    private static void append() {
        TrimmedLog x = new TrimmedLog();
        no(x, RANGE, () -> x.append(-1));
        no(x, RANGE, () -> x.append(256));
        no(x, RANGE, () -> x.append(Integer.MIN_VALUE));
        no(x, RANGE, () -> x.append(256 + 'G'));
        is(() -> x.append('G'), 1);
        is(x::errorPosition, NONE);
        is(() -> x.append(0), 2);
        is(() -> x.append(255), 3);
        is(x::errorPosition, 1);
        for (int n = 4; n <= 120; n++) {
            int want = n;
            is(() -> x.append('l'), want);
        }
        no(x, STATE, () -> x.append('l'));
        no(x, RANGE, () -> x.append(256));
        no(x, RANGE, () -> x.append(-1));
        is(x::clearText, 120);
        is(() -> x.append('G'), 1);
        no(x, STATE, x::undo);
    }

    private static void clearText() {
        TrimmedLog x = rows(1, 1);
        is(x::clearText, 0);
        x.append('G');
        x.append('G');
        is(x::errorPosition, 1);
        is(x::clearText, 2);
        is(x::clearText, 0);
        is(x::errorPosition, 0);
        is(() -> x.append('G'), 1);
        is(x::errorPosition, NONE);
        is(() -> x.about(0), 1);
        is(x::undo, 0);
    }

    private static void error(String text, int want) {
        TrimmedLog x = new TrimmedLog();
        Check.type(x, text);
        Check.due("promise 4, errorPosition() of \"" + text + "\"", x.errorPosition(), want);
        Check.due("promise 4, again", x.errorPosition(), want);
        if (want != NONE) {
            no(x, STATE, x::load);
        }
    }

    private static void errorPosition() {
        error("", 0);
        error("G", NONE);
        error("g", 0);
        error(" G", 0);
        error("w", 0);
        error("GG", 1);
        error("G ", 1);
        error("G\u0000", 1);
        error("Gx", 1);
        error("G0", 1);
        // Each command: all of it, its fronts, and a sign too many.
        String[] commands = {"w79940", "w00001", "j72+", "j00-", "r750", "r001", "l7", "l0", "h7+", "h0-",
            "s54000", "s00000", "s03999", "t99", "t01", "t10"};
        for (String c : commands) {
            error("G" + c, NONE);
            error("Gl0" + c + c + "t01", NONE);
            for (int n = 1; n < c.length(); n++) {
                error("G" + c.substring(0, n), n + 1);
                error("G" + c.substring(0, n) + " ", n + 1);
                error("G" + c.substring(0, n) + "\u00e9", n + 1);
                error("G" + c.substring(0, n) + "/", n + 1);
                error("G" + c.substring(0, n) + ":", n + 1);
            }
            error("G" + c + "0", c.length() + 1);
            error("G" + c + "+", c.length() + 1);
        }
        error("Gw8", 2);
        error("Gw7990", 6);
        error("Gw79900", 6);
        error("Gw79941", 6);
        error("Gw7995", 5);
        error("Gw79939", NONE);
        error("Gw7990a", 6);
        error("Gj8", 2);
        error("Gj73", 3);
        error("Gj72*", 4);
        error("Gj72,", 4);
        error("Gj721", 4);
        error("Gr8", 2);
        error("Gr700", 4);
        error("Gr751", 4);
        error("Gr76", 3);
        error("Gr749", NONE);
        error("Gl8", 2);
        error("Gl9", 2);
        error("Gh8", 2);
        error("Gh70", 3);
        error("Gs6", 2);
        error("Gs5400", 6);
        error("Gs54001", 6);
        error("Gs5401", 5);
        error("Gs541", 4);
        error("Gs55", 3);
        error("Gt00", 3);
        error("Gt0", 3);
        error("Gt", 2);
        error("Gt011", 4);
        // Settings out of their own ranges are no errors, only left out by load().
        error("Gs04000s10000s24000s50100", NONE);
        String full = "Gw00001" + "t01".repeat(37) + "l0";
        error(full, NONE);
        error(full.substring(0, 119), 119);
        error(full.substring(0, 119) + "8", 119);
        error(full.substring(0, 118) + "w0", 120);
    }

    private static void load() {
        TrimmedLog x = log("Gs00002s30050j00+j10-w11120w22220w33320w11420w52520r003t01");
        is(() -> x.about(0), 5);
        is(() -> x.about(1), 2);
        is(() -> x.about(7), 1);
        is(() -> x.about(8), 1);
        no(x, STATE, x::undo);
        x.write(0, 0, 1);
        x.save(0);
        x.save(1);
        is(() -> x.restore(0), 1);
        // The text is kept, and loading again makes everything anew.
        is(x::load, 0);
        is(() -> x.about(0), 5);
        is(() -> x.about(8), 1);
        no(x, STATE, x::undo);
        no(x, STATE, () -> x.restore(0));
        no(x, STATE, () -> x.restore(1));
        is(x::clearText, 58);
        loadThatLeavesOut();
        loadThatForgets();
        loadThatThrows();
    }

    private static void loadThatLeavesOut() {
        TrimmedLog x = new TrimmedLog();
        // Left out: l0, r001, h1+ (no reader), j00+ (again), j12- (never left), s00009, s10039, s20100, s50100.
        Check.type(x, "Gl0r001h1+j00+j00-j12-s00009s10039s20100s50100s54000s00008w00540");
        is(x::load, 10);
        is(() -> x.about(0), 1);
        is(() -> x.about(4), 1);
        is(() -> x.about(5), 1);
        is(() -> x.setting(0), 8);
        is(() -> x.setting(1), 100);
        Check.type(x, "G");
        is(x::load, 0);
        for (int what = 0; what <= 11; what++) {
            int w = what;
            is(() -> x.about(w), 0);
        }
        is(() -> x.setting(0), 4);
        no(x, INDEX, () -> x.readerOf(0, 0));
        x.join(0, 0, true);
        x.leave(0);
        is(x::load, 0);
        no(x, STATE, () -> x.join(0, 2, false));
        // A hold that is wished for together with a gap.
        Check.type(x, "Gs30000s00001j00-w00110w00210l0t01j02+j02-h0+r001h0+");
        is(x::load, 2);
        is(() -> x.readerOf(0, 0), 1);
        is(() -> x.readerOf(0, 1), 1);
        is(() -> x.about(11), 1);
    }

    private static void loadThatForgets() {
        TrimmedLog x = log("Gs00001s30000s40010s50001j00-j10+w00010w00110j21+t01");
        x.read(0, 1);
        is(() -> x.about(8), 1);
        is(() -> x.about(9), 1);
        is(() -> x.about(10), 1);
        is(() -> x.about(11), 1);
        Check.type(x, "Gt02");
        is(x::load, 0);
        no(x, STATE, x::undo);
        int[] want = {0, 0, 0, 0, 0, 0, 0, 2, 0, 0, 0, 0};
        for (int what = 0; what <= 11; what++) {
            int w = what;
            is(() -> x.about(w), want[w]);
        }
        is(() -> x.base(0), NONE);
        is(() -> x.setting(5), 0);
    }

    private static void loadThatThrows() {
        TrimmedLog x = rows(3, 10);
        x.join(2, 1, true);
        x.save(1);
        Check.type(x, "Gw00001w");
        no(x, STATE, x::load);
        is(x::clearText, 8);
        is(() -> x.restore(1), 0);
        is(() -> x.about(0), 3);
        TrimmedLog y = rows(2, 10);
        Check.type(y, "Gt00");
        no(y, STATE, y::load);
        is(y::undo, 1);
    }

    private static void about() {
        TrimmedLog x = log("Gs00002s30050j00+j10-w11120w22220w33320w11420w52520r003t01");
        int[] want = {5, 2, 2, 60, 2, 1, 1, 1, 1, 0, 0, 0};
        for (int what = 0; what <= 11; what++) {
            int w = what;
            is(() -> x.about(w), want[w]);
        }
        no(x, RANGE, () -> x.about(-1));
        no(x, RANGE, () -> x.about(12));
        no(x, RANGE, () -> x.about(Integer.MAX_VALUE));
        // Rows missed by those who left count; a gap that is not told does not.
        x.read(1, 1);
        is(() -> x.about(11), 2);
        is(() -> x.about(6), 0);
        x.leave(1);
        is(() -> x.about(11), 2);
        is(() -> x.about(4), 1);
        x.join(1, 2, true);
        is(() -> x.readerOf(1, 3), 0);
        is(() -> x.about(11), 2);
        is(() -> x.about(5), 2);
        // Both kinds of lost holds: reader 1 (place 2) keeps 60, reader 0 (place 3) 40.
        x.set(4, 59);
        x.set(5, 1);
        x.ticks(1);
        is(() -> x.about(9), 1);
        is(() -> x.about(10), 1);
        is(() -> x.about(5), 0);
        is(() -> x.about(7), 2);
        is(() -> x.about(8), 2);
        is(() -> x.about(1), 4);
        is(() -> x.about(2), 1);
        is(() -> x.about(3), 20);
        is(() -> x.about(6), 2);
        x.leave(0);
        x.leave(1);
        is(() -> x.about(6), 0);
        is(() -> x.about(11), 2);
    }

    private static void rowOf() {
        TrimmedLog x = new TrimmedLog();
        x.set(0, 2);
        x.write(7, 99, 40);
        x.ticks(3);
        x.write(0, 0, 1);
        x.write(3, 14, 15);
        x.join(0, 0, true);
        x.join(1, 1, true);
        x.join(2, 0, false);
        x.write(5, 5, 5);
        x.read(0, 1);
        int[][] want = {{7, 99, 40, 0, 0, 0}, {0, 0, 1, 3, 0, 1}, {3, 14, 15, 3, 2, 1}, {5, 5, 5, 3, 2, 2}};
        for (int i = 0; i < 4; i++) {
            for (int what = 0; what <= 5; what++) {
                int row = i;
                int w = what;
                is(() -> x.rowOf(row, w), want[row][w]);
            }
        }
        no(x, RANGE, () -> x.rowOf(0, 6));
        no(x, RANGE, () -> x.rowOf(3, -1));
        no(x, INDEX, () -> x.rowOf(4, 0));
        no(x, INDEX, () -> x.rowOf(-1, 0));
        no(x, INDEX, () -> x.rowOf(4, 6));
        no(x, INDEX, () -> x.rowOf(Integer.MIN_VALUE, -1));
        // A row that was dropped is not in the log.
        x.read(0, 1);
        x.set(3, 0);
        is(() -> x.ticks(1), 1);
        no(x, INDEX, () -> x.rowOf(1, 0));
        no(x, INDEX, () -> x.rowOf(0, 9));
        is(() -> x.rowOf(2, 1), 14);
        is(() -> x.rowOf(3, 4), 2);
        is(() -> x.rowOf(2, 5), 1);
    }

    private static void segmentOf() {
        TrimmedLog x = new TrimmedLog();
        x.set(0, 3);
        x.set(1, 50);
        x.set(2, 4);
        int[] lengths = {20, 20, 10, 1, 40, 10};
        for (int n : lengths) {
            x.write(0, 0, n);
            x.ticks(1);
        }
        // Rows 0 to 2 (full), 3 and 4 (41; 10 more would be 51), 5; now is time 6.
        x.join(0, 1, true);
        x.hold(0, true);
        x.join(1, 0, false);
        x.hold(1, true);
        int[][] want = {{3, 2, 41, 1, 0, 1}, {5, 1, 10, 0, 0, 1}};
        is(() -> x.about(8), 1);
        is(() -> x.about(1), 3);
        for (int k = 0; k < 2; k++) {
            for (int what = 0; what <= 5; what++) {
                int segment = k;
                int w = what;
                is(() -> x.segmentOf(segment, w), want[segment][w]);
            }
        }
        // Due by age: row 4 was written at 4, row 5 at 5; the open segment is due too, but it stays.
        x.ticks(2);
        is(() -> x.segmentOf(0, 4), 1);
        is(() -> x.segmentOf(1, 4), 0);
        x.ticks(1);
        is(() -> x.segmentOf(1, 4), 1);
        x.set(2, 0);
        is(() -> x.segmentOf(0, 4), 0);
        is(() -> x.segmentOf(1, 4), 0);
        // Due by the length of all rows, 51: longer, not as long.
        x.set(3, 51);
        is(() -> x.segmentOf(0, 4), 0);
        x.set(3, 50);
        is(() -> x.segmentOf(0, 4), 1);
        is(() -> x.segmentOf(1, 4), 1);
        // Held up to the last row.
        x.read(1, 1);
        is(() -> x.segmentOf(0, 5), 1);
        x.read(1, 1);
        is(() -> x.segmentOf(0, 5), 0);
        is(() -> x.segmentOf(1, 5), 1);
        x.read(1, 1);
        is(() -> x.segmentOf(1, 5), 0);
        x.hold(1, false);
        is(() -> x.segmentOf(1, 5), 0);
        no(x, INDEX, () -> x.segmentOf(2, 0));
        no(x, INDEX, () -> x.segmentOf(-1, 0));
        no(x, INDEX, () -> x.segmentOf(2, 6));
        no(x, INDEX, () -> x.segmentOf(Integer.MAX_VALUE, 0));
        no(x, RANGE, () -> x.segmentOf(0, 6));
        no(x, RANGE, () -> x.segmentOf(1, -1));
    }

    private static void readerOf() {
        TrimmedLog x = rows(6, 10);
        x.join(3, 0, true);
        x.join(4, 0, false);
        x.ticks(2);
        x.read(3, 4);
        int[][] want = {{4, 1, 4, 0, 2, 2, 20, 0, 0}, {0, 0, 0, 0, 0, 6, 60, 0, 0}};
        check(x, 3, want[0]);
        check(x, 4, want[1]);
        // Segment 0 (rows 0 to 3) goes; reader 4 has a gap of 4, and sees the 2 rows that are left.
        x.set(3, 59);
        x.ticks(1);
        check(x, 4, new int[] {0, 0, 0, 0, 0, 2, 20, 4, 0});
        check(x, 3, new int[] {4, 1, 4, 0, 2, 2, 20, 0, 0});
        x.read(4, 1);
        check(x, 4, new int[] {4, 0, 0, 4, 3, 2, 20, 0, 0});
        // A read of nothing is a read.
        x.read(4, 50);
        x.ticks(1);
        is(() -> x.read(4, 1), 0);
        check(x, 4, new int[] {6, 0, 2, 4, 4, 0, 0, 0, 0});
        // The reason stays until the next join() or hold(), also hold() without a hold.
        x.set(4, 19);
        x.ticks(1);
        check(x, 3, new int[] {4, 0, 4, 0, 2, 2, 20, 0, 1});
        x.read(3, 1);
        is(() -> x.readerOf(3, 8), 1);
        x.hold(3, false);
        is(() -> x.readerOf(3, 8), 0);
        x.hold(3, true);
        x.set(4, 0);
        x.set(5, 1);
        x.ticks(1);
        is(() -> x.readerOf(3, 8), 2);
        x.leave(3);
        no(x, INDEX, () -> x.readerOf(3, 0));
        x.join(3, 2, false);
        check(x, 3, new int[] {5, 0, 0, 0, 6, 1, 10, 0, 0});
        no(x, INDEX, () -> x.readerOf(0, 0));
        no(x, INDEX, () -> x.readerOf(-1, 0));
        no(x, INDEX, () -> x.readerOf(8, 0));
        no(x, INDEX, () -> x.readerOf(0, 9));
        no(x, RANGE, () -> x.readerOf(3, 9));
        no(x, RANGE, () -> x.readerOf(4, -1));
    }

    private static void check(TrimmedLog x, int name, int[] want) {
        for (int what = 0; what <= 8; what++) {
            int w = what;
            is(() -> x.readerOf(name, w), want[w]);
        }
    }

    private static void table() {
        TrimmedLog x = new TrimmedLog();
        x.join(7, 0, true);
        for (int key = 0; key <= 7; key++) {
            int k = key;
            is(() -> x.table(7, k), NONE);
        }
        x.write(7, 0, 1);
        x.write(0, 99, 1);
        x.write(7, 5, 1);
        is(() -> x.table(7, 7), NONE);
        x.read(7, 1);
        is(() -> x.table(7, 7), 0);
        is(() -> x.table(7, 0), NONE);
        x.read(7, 2);
        is(() -> x.table(7, 7), 5);
        is(() -> x.table(7, 0), 99);
        no(x, INDEX, () -> x.table(0, 0));
        no(x, INDEX, () -> x.table(0, 8));
        no(x, INDEX, () -> x.table(8, 0));
        no(x, INDEX, () -> x.table(-1, -1));
        no(x, RANGE, () -> x.table(7, 8));
        no(x, RANGE, () -> x.table(7, -1));
        // Told of a gap, the table is the base: what was read before is no longer in it.
        TrimmedLog y = log("Gs00001s30010j00-w11110r001w22210w11310w33410t01");
        is(() -> y.about(1), 3);
        is(() -> y.table(0, 1), 11);
        y.read(0, 1);
        is(() -> y.table(0, 1), 13);
        is(() -> y.table(0, 2), 22);
        is(() -> y.table(0, 3), NONE);
        y.read(0, 1);
        is(() -> y.table(0, 3), 34);
    }

    private static void base() {
        TrimmedLog x = log("Gs00002s30010w11110w11210w22310w33410w11510");
        is(() -> x.base(1), NONE);
        is(() -> x.ticks(1), 2);
        // Rows 0 to 3 went, in their order; row 4 is in the open segment.
        is(() -> x.base(1), 12);
        is(() -> x.base(2), 23);
        is(() -> x.base(3), 34);
        is(() -> x.base(0), NONE);
        is(() -> x.base(7), NONE);
        x.undo();
        is(() -> x.base(1), NONE);
        no(x, RANGE, () -> x.base(-1));
        no(x, RANGE, () -> x.base(8));
        // A key keeps its value when rows without it go.
        TrimmedLog y = log("Gs00001s30010w10010w20010w70710t01");
        is(() -> y.base(1), 0);
        is(() -> y.base(2), 0);
        is(() -> y.base(7), NONE);
        y.write(0, 8, 1);
        y.ticks(1);
        is(() -> y.base(1), 0);
        is(() -> y.base(7), 7);
        is(() -> y.base(0), NONE);
    }

    private static void setting() {
        TrimmedLog x = new TrimmedLog();
        int[] values = {7, 123, 9, 3999, 17, 98};
        for (int what = 0; what <= 5; what++) {
            int w = what;
            x.set(w, values[w]);
            is(() -> x.setting(w), values[w]);
        }
        for (int what = 0; what <= 5; what++) {
            int w = what;
            is(() -> x.setting(w), values[w]);
        }
        no(x, RANGE, () -> x.setting(-1));
        no(x, RANGE, () -> x.setting(6));
        x.undo();
        is(() -> x.setting(5), 0);
    }

    private static void write() {
        TrimmedLog x = new TrimmedLog();
        no(x, RANGE, () -> x.write(-1, 0, 1));
        no(x, RANGE, () -> x.write(8, 0, 1));
        no(x, RANGE, () -> x.write(0, -1, 1));
        no(x, RANGE, () -> x.write(0, 100, 1));
        no(x, RANGE, () -> x.write(0, 0, 0));
        no(x, RANGE, () -> x.write(0, 0, 41));
        no(x, STATE, x::undo);
        is(() -> x.write(0, 0, 1), 0);
        is(() -> x.write(7, 99, 40), 1);
        is(() -> x.write(7, 99, 40), 2);
        is(() -> x.about(2), 1);
        is(() -> x.about(3), 81);
        // 100 is not longer than 100, and then there are 4 rows.
        is(() -> x.write(0, 0, 19), 3);
        is(() -> x.about(2), 1);
        is(() -> x.write(0, 0, 1), 4);
        is(() -> x.about(2), 2);
        is(() -> x.segmentOf(1, 0), 4);
        x.write(0, 0, 40);
        x.write(0, 0, 40);
        is(() -> x.about(2), 2);
        is(() -> x.write(0, 0, 20), 7);
        is(() -> x.about(2), 3);
        is(() -> x.segmentOf(1, 1), 3);
        is(() -> x.segmentOf(2, 1), 1);
        // As many rows as setting 0, or more; a new setting is for the next row.
        x.write(0, 0, 1);
        x.write(0, 0, 1);
        x.set(0, 2);
        is(() -> x.about(2), 3);
        x.write(0, 0, 1);
        is(() -> x.about(2), 4);
        is(() -> x.segmentOf(2, 1), 3);
        x.set(1, 40);
        x.write(0, 0, 39);
        is(() -> x.about(2), 4);
        is(() -> x.segmentOf(3, 2), 40);
        x.set(0, 8);
        x.write(0, 0, 1);
        is(() -> x.about(2), 5);
        x.set(0, 1);
        x.write(0, 0, 1);
        x.write(0, 0, 1);
        is(() -> x.about(2), 7);
        writeToTheLimit();
    }

    private static void writeToTheLimit() {
        TrimmedLog x = new TrimmedLog();
        x.set(3, 100);
        for (int i = 0; i < 200; i++) {
            int row = i;
            is(() -> x.write(row % 8, row % 100, 40), row);
            x.ticks(1);
        }
        no(x, STATE, () -> x.write(0, 0, 1));
        no(x, RANGE, () -> x.write(8, 0, 1));
        no(x, RANGE, () -> x.write(0, 100, 1));
        no(x, RANGE, () -> x.write(0, 0, 0));
        is(() -> x.about(0), 200);
        is(() -> x.rowOf(199, 1), 99);
        is(() -> x.rowOf(199, 3), 199);
        is(() -> x.rowOf(199, 2), 40);
        is(() -> x.rowOf(198, 2), 40);
        is(() -> x.segmentOf(x.about(2) - 1, 2), 80);
        is(() -> x.join(0, 0, false), x.about(1));
        is(() -> x.readerOf(0, 6), x.about(3));
        is(() -> x.read(0, 50), 200 - x.about(1));
        is(() -> x.readerOf(0, 6), 0);
        x.undo();
        x.undo();
        is(x::undo, 11);
        is(x::undo, 10);
        is(() -> x.write(3, 33, 3), 199);
        is(() -> x.truth(3, 200, 1), 33);
    }

    private static void join() {
        TrimmedLog x = log("Gs00002s30010w11110w11210w22310w33410w11510t01");
        is(() -> x.about(1), 4);
        is(() -> x.join(0, 0, true), 4);
        check(x, 0, new int[] {4, 1, 0, 0, 1, 1, 10, 0, 0});
        is(() -> x.table(0, 1), 12);
        is(() -> x.table(0, 3), 34);
        is(() -> x.table(0, 4), NONE);
        is(() -> x.join(7, 1, false), 5);
        check(x, 7, new int[] {5, 0, 0, 0, 1, 0, 0, 0, 0});
        is(() -> x.table(7, 1), 15);
        is(() -> x.table(7, 2), 23);
        is(() -> x.table(7, 0), NONE);
        no(x, RANGE, () -> x.join(-1, 0, true));
        no(x, RANGE, () -> x.join(8, 0, true));
        no(x, RANGE, () -> x.join(1, -1, true));
        no(x, RANGE, () -> x.join(1, 3, true));
        no(x, RANGE, () -> x.join(0, 3, true));
        no(x, STATE, () -> x.join(0, 0, false));
        no(x, STATE, () -> x.join(0, 1, false));
        no(x, STATE, () -> x.join(7, 2, false));
        no(x, STATE, () -> x.join(1, 2, false));
        no(x, STATE, () -> x.join(1, 2, true));
        joinAgain();
    }

    private static void joinAgain() {
        TrimmedLog x = log("Gs00002s30030w11110w11210w22310w33410j00+r003t02");
        is(() -> x.about(1), 2);
        x.leave(0);
        x.ticks(4);
        is(() -> x.join(0, 2, true), 3);
        check(x, 0, new int[] {3, 1, 0, 0, 6, 1, 10, 0, 0});
        is(() -> x.table(0, 1), 12);
        is(() -> x.table(0, 2), 23);
        is(() -> x.table(0, 3), NONE);
        // With a gap it may come again only without a hold.
        x.leave(0);
        x.write(4, 44, 1);
        x.set(3, 20);
        x.ticks(1);
        is(() -> x.about(1), 4);
        no(x, STATE, () -> x.join(0, 2, true));
        is(() -> x.join(0, 2, false), 3);
        check(x, 0, new int[] {3, 0, 0, 0, 7, 1, 1, 1, 0});
        is(() -> x.read(0, 9), -1);
        check(x, 0, new int[] {4, 0, 0, 1, 7, 1, 1, 0, 0});
        // The reader that left last counts, not the first of the name.
        x.leave(0);
        x.join(0, 1, true);
        x.leave(0);
        is(() -> x.join(0, 2, true), 5);
        is(() -> x.table(0, 4), 44);
        // Another way to join after having left forgets place and table.
        x.leave(0);
        is(() -> x.join(0, 0, false), 4);
        is(() -> x.table(0, 4), NONE);
        // Whether one has left is a part of the state.
        TrimmedLog y = rows(1, 1);
        y.join(5, 0, false);
        y.leave(5);
        y.undo();
        y.undo();
        no(y, STATE, () -> y.join(5, 2, false));
        // Place at the first row of the log: no gap.
        TrimmedLog z = log("Gs00001s30000w00010j00-r001l0w00110t01");
        is(() -> z.about(1), 1);
        is(() -> z.join(0, 2, true), 1);
    }

    private static void read() {
        TrimmedLog x = rows(60, 1);
        x.join(0, 0, false);
        no(x, INDEX, () -> x.read(1, 1));
        no(x, INDEX, () -> x.read(1, 0));
        no(x, INDEX, () -> x.read(-1, 1));
        no(x, INDEX, () -> x.read(8, 51));
        no(x, RANGE, () -> x.read(0, 0));
        no(x, RANGE, () -> x.read(0, 51));
        no(x, RANGE, () -> x.read(0, -1));
        is(() -> x.read(0, 1), 1);
        is(() -> x.read(0, 2), 2);
        is(() -> x.table(0, 2), 2);
        is(() -> x.table(0, 3), NONE);
        is(() -> x.read(0, 50), 50);
        is(() -> x.readerOf(0, 0), 53);
        is(() -> x.readerOf(0, 2), 53);
        is(() -> x.read(0, 50), 7);
        is(() -> x.read(0, 50), 0);
        is(() -> x.readerOf(0, 0), 60);
        is(() -> x.readerOf(0, 2), 60);
        is(() -> x.table(0, 3), 59);
        // A gap is told once, whatever n is, and nothing is read this time; a second one adds to it.
        TrimmedLog y = log("Gs00001s30000j00-w11110w11210w11310w11410s20000t01");
        is(() -> y.read(0, 1), -3);
        is(() -> y.readerOf(0, 2), 0);
        is(() -> y.readerOf(0, 3), 3);
        is(() -> y.readerOf(0, 4), 1);
        is(() -> y.table(0, 1), 13);
        y.write(2, 22, 1);
        y.ticks(1);
        is(() -> y.read(0, 50), -1);
        is(() -> y.about(11), 4);
        is(() -> y.readerOf(0, 3), 4);
        is(() -> y.readerOf(0, 4), 2);
        is(() -> y.read(0, 50), 1);
        is(() -> y.table(0, 1), 14);
        is(() -> y.table(0, 2), 22);
        // Reading wakes up: the time of the read counts, also one of nothing.
        y.hold(0, true);
        y.set(5, 2);
        y.ticks(1);
        y.read(0, 1);
        y.ticks(1);
        is(() -> y.readerOf(0, 1), 1);
        y.ticks(1);
        is(() -> y.readerOf(0, 1), 0);
    }

    private static void leave() {
        TrimmedLog x = rows(3, 10);
        x.join(0, 0, true);
        x.join(7, 0, true);
        no(x, INDEX, () -> x.leave(1));
        no(x, INDEX, () -> x.leave(-1));
        no(x, INDEX, () -> x.leave(8));
        is(() -> x.leave(0), 1);
        no(x, INDEX, () -> x.leave(0));
        no(x, INDEX, () -> x.table(0, 0));
        no(x, INDEX, () -> x.hold(0, true));
        no(x, INDEX, () -> x.read(0, 1));
        is(x::slowest, 7);
        is(() -> x.about(5), 1);
        is(() -> x.leave(7), 0);
        is(x::slowest, NONE);
        is(() -> x.rowOf(0, 5), 0);
        is(x::undo, 6);
        is(x::slowest, 7);
        // One who has left holds nothing back.
        TrimmedLog y = log("Gs00001s30000j00+w00010w00110");
        is(() -> y.ticks(1), 0);
        y.leave(0);
        is(() -> y.ticks(1), 1);
    }

    private static void hold() {
        TrimmedLog x = log("Gs00001s30000j00-j11+w00010w00110w00210");
        is(() -> x.hold(0, true), 0);
        is(() -> x.hold(0, true), 1);
        is(() -> x.readerOf(0, 1), 1);
        is(() -> x.hold(0, false), 1);
        is(() -> x.hold(0, false), 0);
        is(() -> x.readerOf(0, 1), 0);
        is(() -> x.hold(1, true), 1);
        no(x, INDEX, () -> x.hold(2, true));
        no(x, INDEX, () -> x.hold(2, false));
        no(x, INDEX, () -> x.hold(-1, true));
        no(x, INDEX, () -> x.hold(8, true));
        x.read(1, 1);
        x.ticks(1);
        is(() -> x.about(1), 1);
        no(x, STATE, () -> x.hold(0, true));
        is(() -> x.hold(0, false), 0);
        is(() -> x.read(0, 1), -1);
        is(() -> x.hold(0, true), 0);
        // hold() is no read: a sleeper loses it again at the next tick.
        x.set(3, 4000);
        x.set(5, 3);
        x.ticks(3);
        is(() -> x.readerOf(0, 8), 2);
        is(() -> x.hold(0, true), 0);
        is(() -> x.readerOf(0, 8), 0);
        is(() -> x.readerOf(0, 4), 1);
        x.ticks(1);
        is(() -> x.readerOf(0, 8), 2);
        is(() -> x.about(10), 3);
    }

    private static void set() {
        TrimmedLog x = new TrimmedLog();
        int[] first = {4, 100, 0, 400, 0, 0};
        int[] low = {1, 40, 0, 0, 0, 0};
        int[] high = {8, 200, 99, 4000, 4000, 99};
        for (int what = 0; what <= 5; what++) {
            int w = what;
            no(x, RANGE, () -> x.set(w, low[w] - 1));
            no(x, RANGE, () -> x.set(w, high[w] + 1));
            no(x, RANGE, () -> x.set(w, Integer.MAX_VALUE));
            is(() -> x.set(w, low[w]), first[w]);
            is(() -> x.set(w, high[w]), low[w]);
            is(() -> x.set(w, high[w]), high[w]);
            is(() -> x.setting(w), high[w]);
        }
        no(x, RANGE, () -> x.set(-1, -1));
        no(x, RANGE, () -> x.set(6, -1));
        no(x, RANGE, () -> x.set(7, -1));
        no(x, RANGE, () -> x.set(6, 0));
        no(x, RANGE, () -> x.set(-1, 50));
        no(x, RANGE, () -> x.set(6, 50));
        // An action also if nothing becomes different.
        is(x::undo, 13);
        is(() -> x.setting(5), 99);
        is(x::undo, 12);
        is(() -> x.setting(5), 0);
    }

    private static void ticks() {
        TrimmedLog x = rows(1, 1);
        no(x, RANGE, () -> x.ticks(0));
        no(x, RANGE, () -> x.ticks(-1));
        no(x, RANGE, () -> x.ticks(100));
        is(() -> x.ticks(1), 0);
        is(() -> x.ticks(99), 0);
        is(() -> x.about(7), 100);
        is(x::undo, 2);
        is(() -> x.about(7), 1);
        ticksThatDropByLength();
        ticksThatDropByAge();
        ticksThatLoseHolds();
    }

    private static void ticksThatDropByLength() {
        // Four segments of one row: 10 each. Longer than, not as long as.
        TrimmedLog x = log("Gs00001s30040w00010w10110w20210w30310");
        is(() -> x.ticks(1), 0);
        x.set(3, 39);
        is(() -> x.ticks(1), 1);
        is(() -> x.ticks(9), 0);
        x.set(3, 10);
        is(() -> x.ticks(1), 2);
        // The open segment is never dropped.
        x.set(3, 0);
        is(() -> x.ticks(99), 0);
        is(() -> x.about(2), 1);
        is(() -> x.about(8), 3);
        x.write(0, 0, 1);
        is(() -> x.ticks(99), 1);
        // Held up to the last row of the segment.
        TrimmedLog y = log("Gs00002s30000j00+w00010w10110w20210w30310w40410");
        is(() -> y.ticks(5), 0);
        y.read(0, 1);
        is(() -> y.ticks(5), 0);
        y.read(0, 1);
        is(() -> y.ticks(5), 1);
        y.read(0, 50);
        is(() -> y.ticks(5), 1);
        is(() -> y.about(1), 4);
    }

    private static void ticksThatDropByAge() {
        TrimmedLog x = new TrimmedLog();
        x.set(0, 2);
        x.set(2, 5);
        x.write(0, 0, 1);
        x.ticks(2);
        x.write(0, 1, 1);
        x.ticks(1);
        x.write(0, 2, 1);
        // The last row of segment 0 was written at 2: due at 7, and now is 3.
        is(() -> x.ticks(3), 0);
        is(x::droppedIn, 1);
        is(() -> x.ticks(1), 1);
        is(() -> x.about(1), 2);
        // A row written only now closes segment 1, whose last row is as old as 3.
        x.set(0, 1);
        x.write(0, 3, 1);
        is(() -> x.ticks(1), 1);
        is(() -> x.ticks(50), 0);
        // An old segment behind a young one waits, and goes with it in one tick.
        TrimmedLog y = log("Gs00001w00010w00110w00210j00+t09s20003");
        is(() -> y.ticks(1), 0);
        y.read(0, 2);
        is(() -> y.ticks(1), 2);
    }

    private static void ticksThatLoseHolds() {
        // The hold on 30 is lost as it is longer than setting 4, and in the same tick the segments go.
        TrimmedLog x = log("Gs00001s30000s40030j00+w00010w00110w00210");
        is(() -> x.ticks(9), 0);
        is(() -> x.readerOf(0, 1), 1);
        x.set(4, 29);
        is(() -> x.ticks(1), 2);
        is(() -> x.readerOf(0, 1), 0);
        is(() -> x.readerOf(0, 8), 1);
        is(() -> x.about(9), 1);
        is(() -> x.about(10), 0);
        is(() -> x.ticks(1), 0);
        is(() -> x.about(9), 1);
        // Reason 1 comes before reason 2.
        TrimmedLog y = log("Gs40001s50001j00+j11+w00010t01");
        is(() -> y.readerOf(0, 8), 1);
        is(() -> y.readerOf(1, 8), 1);
        TrimmedLog z = log("Gs40001s50001w00010j00+j11+t01");
        is(() -> z.readerOf(0, 8), 1);
        is(() -> z.readerOf(1, 8), 2);
        // Asleep for at least setting 5; the time of joining counts as a read.
        TrimmedLog s = log("Gs50003t05j00+t02");
        is(() -> s.readerOf(0, 1), 1);
        s.ticks(1);
        is(() -> s.readerOf(0, 1), 0);
        is(() -> s.readerOf(0, 8), 2);
        is(() -> s.about(10), 1);
        // Setting 0: any.
        TrimmedLog t = log("Gj00+w00040t99");
        is(() -> t.readerOf(0, 1), 1);
        is(() -> t.readerOf(0, 8), 0);
    }

    private static void undo() {
        TrimmedLog x = new TrimmedLog();
        no(x, STATE, x::undo);
        for (int i = 0; i < 16; i++) {
            x.write(0, i, 1);
        }
        for (int left = 13; left >= 0; left--) {
            int want = left;
            is(x::undo, want);
            is(() -> x.about(0), want + 2);
        }
        no(x, STATE, x::undo);
        is(() -> x.about(0), 2);
        undoOfEach();
        // What throws is no action, and neither is anything else.
        x.write(0, 0, 1);
        no(x, RANGE, () -> x.write(0, 0, 41));
        no(x, INDEX, () -> x.read(0, 1));
        no(x, INDEX, () -> x.leave(0));
        no(x, INDEX, () -> x.hold(0, true));
        no(x, RANGE, () -> x.set(0, 0));
        no(x, RANGE, () -> x.ticks(0));
        no(x, STATE, () -> x.join(0, 2, true));
        x.append('G');
        x.save(0);
        x.simulate(1, 60);
        x.runScript(1, 500001);
        x.leastRoom(3);
        x.droppedIn();
        is(x::undo, 0);
        no(x, STATE, x::undo);
        // The save slots and the text are no part of what is taken back.
        is(() -> x.restore(0), 0);
        is(() -> x.about(0), 3);
        is(x::clearText, 1);
    }

    private static void undoOfEach() {
        TrimmedLog x = log("Gs00001s30000j00-w00010w00110t01j11+");
        IntSupplier[] actions = {() -> x.write(1, 1, 1), () -> x.join(2, 1, true), () -> x.read(0, 1),
            () -> x.read(1, 50), () -> x.leave(0), () -> x.hold(1, false), () -> x.set(5, 1), () -> x.ticks(9),
            () -> x.hold(1, true), () -> x.set(4, 4), () -> x.read(1, 1)};
        String[] before = new String[actions.length];
        for (int i = 0; i < actions.length; i++) {
            before[i] = Check.picture(x);
            actions[i].getAsInt();
        }
        for (int i = actions.length - 1; i >= 0; i--) {
            int left = i;
            is(x::undo, left);
            Check.due(here() + ", action " + i, Check.picture(x), before[i]);
        }
        no(x, STATE, x::undo);
    }

    private static void why() {
        TrimmedLog x = new TrimmedLog();
        is(x::why, 1);
        x.set(0, 1);
        x.join(0, 0, true);
        x.write(0, 0, 10);
        x.set(3, 0);
        is(x::why, 1);
        x.set(3, 20);
        x.write(0, 0, 10);
        is(x::why, 2);
        x.set(3, 19);
        is(x::why, 3);
        x.read(0, 1);
        is(x::why, 0);
        x.undo();
        x.hold(0, false);
        is(x::why, 0);
        x.ticks(1);
        is(x::why, 1);
        // Due by age.
        TrimmedLog y = log("Gs00001w00010w00010t04s20005");
        is(y::why, 2);
        y.set(2, 4);
        is(y::why, 0);
        y.ticks(1);
        is(y::why, 1);
    }

    private static void slowest() {
        TrimmedLog x = rows(5, 1);
        is(x::slowest, NONE);
        x.join(6, 1, true);
        is(x::slowest, 6);
        x.join(2, 0, false);
        is(x::slowest, 6);
        x.join(5, 0, true);
        x.join(4, 0, true);
        is(x::slowest, 4);
        x.read(4, 1);
        is(x::slowest, 5);
        x.read(5, 1);
        is(x::slowest, 4);
        x.read(5, 1);
        x.read(4, 4);
        is(x::slowest, 5);
        x.hold(5, false);
        is(x::slowest, 4);
        x.hold(4, false);
        is(x::slowest, 6);
        x.leave(6);
        is(x::slowest, NONE);
        x.hold(2, true);
        is(x::slowest, 2);
        x.join(7, 0, true);
        is(x::slowest, 2);
        x.join(0, 0, true);
        is(x::slowest, 0);
        x.leave(2);
        x.leave(0);
        is(x::slowest, 7);
    }

    private static void truth() {
        TrimmedLog x = log("Gs00002s30030w11110w11210w22310w11410w33510w20610t01");
        // Rows 0 to 3 went: 60 and 40 are longer than 30, 20 is not.
        is(() -> x.about(1), 4);
        int[][] want = {{NONE, 14, 23, NONE}, {NONE, 14, 23, 35}, {NONE, 14, 6, 35}};
        for (int way = 0; way <= 1; way++) {
            for (int row = 4; row <= 6; row++) {
                for (int key = 0; key <= 3; key++) {
                    int w = way;
                    int r = row;
                    int k = key;
                    is(() -> x.truth(k, r, w), want[r - 4][k]);
                }
            }
        }
        no(x, INDEX, () -> x.truth(0, 3, 0));
        no(x, INDEX, () -> x.truth(0, 7, 1));
        no(x, INDEX, () -> x.truth(8, 7, 2));
        no(x, INDEX, () -> x.truth(0, -1, 0));
        no(x, RANGE, () -> x.truth(-1, 4, 0));
        no(x, RANGE, () -> x.truth(8, 4, 1));
        no(x, RANGE, () -> x.truth(0, 4, 2));
        no(x, RANGE, () -> x.truth(0, 6, -1));
    }

    private static void asks(TrimmedLog x, IntSupplier call, int want) {
        String before = Check.picture(x);
        Check.due(here(), Check.answer(call), Integer.toString(want));
        Check.due(here() + ", the state behind it", Check.picture(x), before);
    }

    private static void droppedIn() {
        TrimmedLog x = log("Gs00001w00010w00110");
        asks(x, x::droppedIn, NONE);
        x.set(3, 19);
        asks(x, x::droppedIn, 1);
        x.set(3, 20);
        x.set(2, 99);
        asks(x, x::droppedIn, 99);
        x.ticks(50);
        asks(x, x::droppedIn, 49);
        x.set(2, 10);
        asks(x, x::droppedIn, 1);
        // A hold that is lost on the way.
        x.join(0, 0, true);
        asks(x, x::droppedIn, NONE);
        x.set(5, 7);
        asks(x, x::droppedIn, 7);
        x.ticks(2);
        x.join(1, 0, true);
        asks(x, x::droppedIn, 7);
        x.set(4, 19);
        asks(x, x::droppedIn, 1);
        // Not even when the open segment is due.
        x.ticks(1);
        is(() -> x.about(2), 1);
        asks(x, x::droppedIn, NONE);
        // What was asked is what ticks() does.
        TrimmedLog y = log("Gs00001s20050w00010w00110t01j00+s50060");
        asks(y, y::droppedIn, 60);
        is(() -> y.ticks(59), 0);
        is(() -> y.ticks(1), 1);
        is(() -> y.about(7), 61);
    }

    private static void lostIn() {
        TrimmedLog x = log("Gj00+j11-w00020w00120");
        no(x, INDEX, () -> x.lostIn(2));
        no(x, INDEX, () -> x.lostIn(-1));
        no(x, INDEX, () -> x.lostIn(8));
        asks(x, () -> x.lostIn(0), NONE);
        x.set(4, 40);
        asks(x, () -> x.lostIn(0), NONE);
        x.set(4, 39);
        asks(x, () -> x.lostIn(0), 1);
        asks(x, () -> x.lostIn(1), NONE);
        x.set(4, 0);
        x.set(5, 99);
        asks(x, () -> x.lostIn(0), 99);
        asks(x, () -> x.lostIn(1), NONE);
        x.ticks(98);
        asks(x, () -> x.lostIn(0), 1);
        x.read(0, 1);
        asks(x, () -> x.lostIn(0), 99);
        x.ticks(10);
        x.set(5, 3);
        asks(x, () -> x.lostIn(0), 1);
        x.hold(1, true);
        x.set(5, 99);
        asks(x, () -> x.lostIn(1), 1);
        x.ticks(1);
        asks(x, () -> x.lostIn(1), NONE);
        asks(x, () -> x.lostIn(0), 88);
        is(() -> x.readerOf(1, 8), 2);
    }

    private static void ifFree() {
        TrimmedLog x = log("Gs00001s30010w00010w00110w00210w00310j00+j10+j21-r102");
        no(x, INDEX, () -> x.ifFree(3));
        no(x, INDEX, () -> x.ifFree(-1));
        no(x, INDEX, () -> x.ifFree(8));
        // Without reader 0, up to the place of reader 1; the others change nothing.
        asks(x, () -> x.ifFree(0), 2);
        asks(x, () -> x.ifFree(1), 0);
        asks(x, () -> x.ifFree(2), 0);
        x.hold(1, false);
        asks(x, () -> x.ifFree(0), 3);
        x.set(3, 30);
        asks(x, () -> x.ifFree(0), 1);
        x.set(3, 40);
        asks(x, () -> x.ifFree(0), 0);
        // Due by age in that tick, not now.
        x.set(2, 1);
        asks(x, () -> x.ifFree(0), 3);
        x.set(2, 2);
        asks(x, () -> x.ifFree(0), 0);
        // Another hold is lost in that tick.
        x.set(3, 0);
        x.hold(1, true);
        x.set(4, 20);
        asks(x, () -> x.ifFree(1), 3);
        // One without a hold, or with a gap: what the tick drops anyway.
        x.hold(0, false);
        x.hold(1, false);
        asks(x, () -> x.ifFree(2), 3);
        x.ticks(1);
        is(() -> x.about(6), 2);
        x.write(0, 0, 1);
        asks(x, () -> x.ifFree(0), 1);
        is(() -> x.readerOf(0, 8), 0);
    }

    private static void leastRoom() {
        TrimmedLog x = new TrimmedLog();
        no(x, RANGE, () -> x.leastRoom(0));
        no(x, RANGE, () -> x.leastRoom(-1));
        no(x, RANGE, () -> x.leastRoom(201));
        asks(x, () -> x.leastRoom(1), 0);
        asks(x, () -> x.leastRoom(200), 0);
        x.set(0, 1);
        x.write(0, 0, 10);
        asks(x, () -> x.leastRoom(200), 0);
        x.write(0, 1, 15);
        asks(x, () -> x.leastRoom(1), 25);
        asks(x, () -> x.leastRoom(200), 25);
        x.set(3, 0);
        asks(x, () -> x.leastRoom(200), 25);
        // Due by age in the fifth tick.
        x.set(2, 5);
        asks(x, () -> x.leastRoom(4), 25);
        asks(x, () -> x.leastRoom(5), NONE);
        // Held: no room is needed until the hold is lost.
        x.join(0, 0, true);
        asks(x, () -> x.leastRoom(200), 0);
        x.set(5, 3);
        asks(x, () -> x.leastRoom(2), 0);
        asks(x, () -> x.leastRoom(3), 25);
        asks(x, () -> x.leastRoom(4), 25);
        asks(x, () -> x.leastRoom(5), NONE);
        is(() -> x.setting(3), 0);
        // No setting is above 4000.
        TrimmedLog y = rows(100, 40);
        asks(y, () -> y.leastRoom(1), 4000);
        y.write(0, 0, 1);
        asks(y, () -> y.leastRoom(1), NONE);
        y.join(0, 0, true);
        asks(y, () -> y.leastRoom(200), 0);
    }

    private static void runScript() {
        TrimmedLog x = log("Gs00001s30020w11110w22210w33310j00-j11+t01");
        // Rows 1 and 2 are left; reader 0 has a gap of 1, reader 1 a hold, at the end.
        is(() -> x.about(1), 1);
        no(x, RANGE, () -> x.runScript(0, 500001));
        no(x, RANGE, () -> x.runScript(0, 0));
        no(x, RANGE, () -> x.runScript(-1, 0));
        no(x, RANGE, () -> x.runScript(4, 0));
        no(x, RANGE, () -> x.runScript(4, 500001));
        no(x, RANGE, () -> x.runScript(1, -1));
        no(x, RANGE, () -> x.runScript(1, 1000000));
        no(x, RANGE, () -> x.runScript(2, 1000000000000L));
        no(x, RANGE, () -> x.runScript(3, 1000000000000000000L));
        no(x, RANGE, () -> x.runScript(3, Long.MAX_VALUE));
        no(x, RANGE, () -> x.runScript(3, Long.MIN_VALUE));
        asks(x, () -> x.runScript(3, 999999999999999999L), 0);
        asks(x, () -> x.runScript(1, 999999), 0);
        asks(x, () -> x.runScript(1, 0), 0);
        // The first command is the highest group, with zeros before it.
        asks(x, () -> x.runScript(2, 500001), 0);
        asks(x, () -> x.runScript(2, 500001000000L), 1);
        asks(x, () -> x.runScript(3, 500001500001000000L), 2);
        asks(x, () -> x.runScript(3, 500001500001500001L), NONE);
        asks(x, () -> x.runScript(2, 500001500001L), NONE);
        scriptActions(x);
        scriptQuestions(x);
        // One after the other, on one copy.
        asks(x, () -> x.runScript(3, 155540755555L * 1000000 + 200020L), 1);
        asks(x, () -> x.runScript(3, 155540750055L * 1000000 + 200020L), NONE);
        asks(x, () -> x.runScript(3, 210001400000L * 1000000 + 320001L), 0);
        asks(x, () -> x.runScript(3, 410000310001L * 1000000 + 610001L), NONE);
        asks(x, () -> x.runScript(3, 410000310001L * 1000000 + 610002L), 2);
        asks(x, () -> x.runScript(3, 410000311001L * 1000000 + 610003L), NONE);
        asks(x, () -> x.runScript(3, 410000312001L * 1000000 + 610003L), NONE);
        asks(x, () -> x.runScript(3, 410000320001L * 1000000 + 610003L), 2);
        asks(x, () -> x.runScript(3, 410000410000L * 1000000 + 500001L), 1);
        TrimmedLog full = new TrimmedLog();
        for (int i = 0; i < 199; i++) {
            full.write(0, 0, 1);
        }
        asks(full, () -> full.runScript(2, 100001100001L), 1);
        full.set(0, 1);
        full.write(0, 0, 1);
        full.set(3, 0);
        full.ticks(1);
        is(() -> full.about(1), 199);
        script(full, "800199 800198 700000", "800200 700001");
    }

    private static void script(TrimmedLog x, String good, String bad) {
        for (String group : good.split(" ")) {
            Check.due("promise 28, " + group, x.runScript(1, Long.parseLong(group)), NONE);
        }
        for (String group : bad.split(" ")) {
            Check.due("promise 28, " + group, x.runScript(1, Long.parseLong(group)), 0);
        }
    }

    private static void scriptActions(TrimmedLog x) {
        script(x, "100001 179940 109930", "180001 190001 100000 100041 100099");
        // Reader 0 is told of its gap, reader 1 is at the end, reader 2 is not there.
        script(x, "200001 200050", "200000 200051 210001 220001 280001 290001 201001 200101");
        script(x, "320000 320001 321000 321001", "322000 322001 300000 310001 323000 380000 390001 320002 320009 320010 320100");
        script(x, "400000 410000", "420000 480000 490000 401000 400100 400010 400001");
        script(x, "500001 500099", "500000 510001 501001 500101");
        Check.due("promise 28, its effect", x.runScript(2, 400000302000L), NONE);
        Check.due("promise 28, its effect", x.runScript(2, 400000302001L), 1);
    }

    private static void scriptQuestions(TrimmedLog x) {
        script(x, "600000 610003 610000", "600001 610004 620000 680000 690000 601000 611003");
        script(x, "710011 720022 730033", "710012 700000 740000 780000 790033 711011 710111");
        script(x, "800000 800001", "800002 800999 801001 810001 880000");
        script(x, "900000 910001", "900001 910000 920000 920001 980000 990001 900002 910002 910101 910011 911001");
        script(x, "500010", "0 1 99999 50 600 7000 80000");
    }

    /** The turns of the document, done with the calls of the face on an object of its own. */
    private static int turns(TrimmedLog y, long seed, int m) {
        int dropped = y.about(8);
        int missed = y.about(11);
        long x = seed;
        for (int i = 0; i < m; i++) {
            x = x * 6364136223846793005L + 1442695040888963407L;
            int r = (int) (x >>> 33);
            int q = r / 16;
            Check.answer(() -> turn(y, r % 16, q));
        }
        return 10000 * (y.about(8) - dropped) + 100 * Math.min(99, y.about(11) - missed) + y.about(4);
    }

    private static int turn(TrimmedLog y, int kind, int q) {
        switch (kind) {
            case 0: case 1: case 2: case 3: case 4: case 5:
                return y.write(q % 8, q / 8 % 100, 1 + q / 1024 % 40);
            case 6: case 7:
                return y.join(q % 8, q / 8 % 3, q / 32 % 2 == 1);
            case 8: case 9:
                return y.read(q % 8, 1 + q / 8 % 12);
            case 10:
                return q / 8 % 4 == 0 ? y.leave(q % 8) : y.hold(q % 8, q / 32 % 2 == 1);
            case 11:
                return q / 1024 % 2 == 0 ? y.set(3, q % 600) : y.set(2, q % 20);
            default:
                return y.ticks(1 + q % 8);
        }
    }

    private static void simulate() {
        String text = "Gs00002s30050j00+j10-w11120w22220w33320w11420w52520r003t01";
        TrimmedLog x = log(text);
        no(x, RANGE, () -> x.simulate(1, 0));
        no(x, RANGE, () -> x.simulate(1, -1));
        no(x, RANGE, () -> x.simulate(1, 61));
        String[] starts = {text, "G", "Gs00001s20030s50017j01+j10+j20-j30-l3w00040w00101t09w00201t03",
            "Gs00002s10040s20009s30100s40045s50005j00+j10-w00040w10140t01w20240w30340t01w40440w50540t01r101w60640"};
        for (int i = 0; i < 1200; i++) {
            long seed = i == 0 ? Long.MIN_VALUE : i == 1 ? Long.MAX_VALUE : i * 982451653L * (1 - i % 2 * 2);
            int m = 1 + i / 4 % 60;
            TrimmedLog y = log(starts[i % 4]);
            int want = turns(y, seed, m);
            TrimmedLog z = log(starts[i % 4]);
            asks(z, () -> z.simulate(seed, m), want);
            // What had been dropped and missed before does not count.
            int next = turns(log(starts[i % 4]), seed, m) == want ? turns(y, seed + 1, 5) : NONE;
            turns(z, seed, m);
            asks(z, () -> z.simulate(seed + 1, 5), next);
        }
        // 99 for more: a reader at row 0 misses some 190 rows.
        TrimmedLog z = rows(150, 40);
        z.join(0, 0, false);
        z.ticks(9);
        is(() -> z.readerOf(0, 7), 140);
        boolean told = false;
        for (int i = 0; i < 40; i++) {
            int answer = z.simulate(i, 60);
            told |= answer / 100 % 100 == 99;
        }
        Check.due("promise 29, 99 rows missed or more in some run", told ? 1 : 0, 1);
        // On a copy: neither actions nor save slots.
        TrimmedLog w = rows(2, 1);
        w.simulate(5, 60);
        is(w::undo, 1);
        no(w, STATE, () -> w.restore(0));
    }

    private static void save() {
        TrimmedLog x = rows(2, 10);
        no(x, INDEX, () -> x.save(-1));
        no(x, INDEX, () -> x.save(2));
        no(x, INDEX, () -> x.save(Integer.MAX_VALUE));
        asks(x, () -> x.save(0), 0);
        x.ticks(7);
        asks(x, () -> x.save(1), 7);
        // No action, and remembered states stay.
        is(x::undo, 2);
        is(() -> x.about(7), 0);
        // A slot is stored over.
        x.ticks(3);
        is(() -> x.save(1), 3);
        x.write(0, 0, 1);
        is(() -> x.restore(1), 3);
        is(() -> x.about(0), 2);
        is(() -> x.restore(0), 0);
    }

    /** Rows of the same number, and counters, that became others behind the save. */
    private static void restoreOtherTimes() {
        TrimmedLog x = log("Gs00001s30000s40010j00+j11-w00110t01w01220t01");
        is(() -> x.about(9), 1);
        String saved = Check.picture(x);
        x.save(0);
        TrimmedLog y = log("Gs00001s40010s50001j20+j31+j40+t07w50530t05w60610w70711t01");
        y.save(1);
        y.restore(1);
        is(() -> y.about(9), 0);
        is(() -> y.about(10), 3);
        x.read(0, 1);
        x.hold(0, true);
        x.ticks(1);
        is(() -> x.about(9), 2);
        is(x::undo, 2);
        is(() -> x.about(9), 1);
        x.ticks(1);
        x.restore(0);
        Check.due("promise 31, what is restored", Check.picture(x), saved);
        // Other rows in the place of those that undo() or restore() took back.
        x.write(3, 3, 3);
        x.ticks(9);
        x.restore(0);
        x.ticks(4);
        x.write(4, 44, 4);
        is(() -> x.rowOf(2, 3), 6);
        x.save(1);
        x.restore(0);
        x.write(5, 55, 5);
        x.set(4, 4);
        x.hold(1, false);
        is(() -> x.rowOf(2, 3), 2);
        x.restore(1);
        is(() -> x.rowOf(2, 0), 4);
        is(() -> x.rowOf(2, 1), 44);
        is(() -> x.rowOf(2, 2), 4);
        is(() -> x.rowOf(2, 3), 6);
    }

    private static void restore() {
        TrimmedLog x = log("Gs00001s30000j00-j31+w11110w22210w33310t02l3");
        no(x, INDEX, () -> x.restore(-1));
        no(x, INDEX, () -> x.restore(2));
        no(x, STATE, () -> x.restore(0));
        x.set(5, 9);
        String saved = Check.picture(x);
        is(() -> x.save(1), 2);
        no(x, STATE, () -> x.restore(0));
        x.read(0, 5);
        x.write(7, 7, 7);
        x.ticks(5);
        x.join(3, 2, false);
        x.set(0, 8);
        is(() -> x.restore(1), 2);
        Check.due("promise 31, what is restored", Check.picture(x), saved);
        no(x, STATE, x::undo);
        // The slot keeps it, whatever is done with the state then.
        x.write(6, 66, 6);
        x.join(3, 2, false);
        x.ticks(9);
        is(x::undo, 2);
        is(() -> x.restore(1), 2);
        Check.due("promise 31, what is restored again", Check.picture(x), saved);
        is(() -> x.join(3, 2, false), 0);
        x.restore(1);
        restoreOtherTimes();
        // What throws forgets nothing.
        x.write(0, 0, 1);
        no(x, STATE, () -> x.restore(0));
        no(x, INDEX, () -> x.restore(7));
        is(x::undo, 0);
        // Since the last load: a load that throws empties no slot.
        Check.type(x, "Gw");
        no(x, STATE, x::load);
        is(() -> x.restore(1), 2);
        Check.type(x, "Gt04");
        is(x::load, 0);
        no(x, STATE, () -> x.restore(1));
        is(() -> x.save(0), 4);
        is(() -> x.restore(0), 4);
    }
}
