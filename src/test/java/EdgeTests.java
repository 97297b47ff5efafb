import java.util.List;
import java.util.function.Supplier;
import java.util.function.ToIntFunction;

/** Each sentence of promises 1 to 31 that names a boundary: the case itself, the last on its other side, what is refused. */
public final class EdgeTests {
    private static final int NONE = Edge.NONE;
    private static final Class<IllegalArgumentException> RANGE = Edge.RANGE;
    private static final Class<IllegalStateException> STATE = Edge.STATE;
    private static final Class<IndexOutOfBoundsException> INDEX = Edge.INDEX;
    private static final int FAR = Integer.MAX_VALUE;
    private static final int FAR_BELOW = Integer.MIN_VALUE;

    private EdgeTests() {
    }

    public static void main(String[] args) {
        Edge.runAll(EdgeTests.class,
                EdgeTests::newObject, EdgeTests::append, EdgeTests::clearText, EdgeTests::errorPosition,
                EdgeTests::loadAnew, EdgeTests::loadForgets, EdgeTests::loadKeeps, EdgeTests::loadCounts,
                EdgeTests::about, EdgeTests::aboutHolds, EdgeTests::aboutMissed,
                EdgeTests::rowOf, EdgeTests::rowHolders, EdgeTests::segmentOf, EdgeTests::segmentNumbers,
                EdgeTests::readerOf, EdgeTests::readerRest, EdgeTests::readerReason, EdgeTests::table, EdgeTests::base,
                EdgeTests::setting, EdgeTests::write, EdgeTests::writeFull, EdgeTests::join, EdgeTests::joinPlaces,
                EdgeTests::joinAgain, EdgeTests::joinWithGap, EdgeTests::joinCounts, EdgeTests::read,
                EdgeTests::readAnswers, EdgeTests::leave, EdgeTests::hold, EdgeTests::holdWithGap, EdgeTests::set,
                EdgeTests::ticks, EdgeTests::ticksAnswer, EdgeTests::undo, EdgeTests::why, EdgeTests::slowest,
                EdgeTests::truth, EdgeTests::truthBehind, EdgeTests::droppedIn, EdgeTests::droppedInByHolds,
                EdgeTests::lostIn, EdgeTests::ifFree, EdgeTests::ifFreeOthers, EdgeTests::leastRoom,
                EdgeTests::leastRoomTicks, EdgeTests::leastRoomGreatest,
                EdgeTests::scriptArguments, EdgeTests::scriptOrder, EdgeTests::scriptWrite, EdgeTests::scriptRead,
                EdgeTests::scriptJoin, EdgeTests::scriptLeave, EdgeTests::scriptTicks, EdgeTests::scriptPlace,
                EdgeTests::scriptTruth, EdgeTests::scriptFirst, EdgeTests::scriptHold, EdgeTests::scriptOthers,
                EdgeTests::simulateArguments, EdgeTests::simulateMissed, EdgeTests::simulateReads, EdgeTests::simulateTicks,
                EdgeTests::simulateJoins, EdgeTests::simulateLeaves, EdgeTests::simulateWrites, EdgeTests::simulateSets,
                EdgeTests::simulateLeftOut, EdgeTests::simulateOnlyTurns,
                EdgeTests::save, EdgeTests::saveKeeps, EdgeTests::restore, EdgeTests::restoreForgets,
                EdgeTests::restoreSinceLoad, EdgeTests::questionsChangeNothing);
    }

    // ---- 1 to 5

    private static void newObject() {
        Edge.sentence("1: Creates a log without rows and readers.");
        TrimmedLog x = new TrimmedLog();
        Edge.are(x::about, 0, 0, 0, 0, 0, 0, 0, 0, 0, 0, 0, 0);
        Edge.refused(TrimmedLog::new, INDEX, y -> y.rowOf(0, 0));
        Edge.refused(TrimmedLog::new, INDEX, y -> y.segmentOf(0, 0));
        for (int n = 0; n <= 7; n++) {
            int name = n;
            Edge.refused(TrimmedLog::new, INDEX, y -> y.readerOf(name, 0));
            Edge.refused(TrimmedLog::new, STATE, y -> y.join(name, 2, false));
        }
        Edge.refused(TrimmedLog::new, STATE, TrimmedLog::undo);
        Edge.refused(TrimmedLog::new, STATE, y -> y.restore(0));
        Edge.refused(TrimmedLog::new, STATE, y -> y.restore(1));
        // Each object for itself.
        TrimmedLog other = Edge.busy();
        Edge.is(other.about(0), 7);
        Edge.alike(TrimmedLog::new, () -> x);
    }

    private static TrimmedLog typed(int n) {
        TrimmedLog x = Edge.busy();
        x.clearText();
        for (int i = 0; i < n; i++) {
            x.append(i == 0 ? 'G' : 'l');
        }
        return x;
    }

    private static void append() {
        Edge.sentence("2: c: character code, 0 to 255");
        Edge.is(new TrimmedLog().append(0), 1);
        Edge.is(new TrimmedLog().append(1), 1);
        Edge.is(new TrimmedLog().append(254), 1);
        Edge.is(new TrimmedLog().append(255), 1);
        int[] outside = {-1, 256, -256, 256 + 'G', 65536 + 'G', FAR, FAR_BELOW};
        for (int c : outside) {
            Edge.refused(Edge::busy, RANGE, x -> x.append(c));
            Edge.sentence("2: Throws IllegalArgumentException .. first, also with a full text");
            Edge.refused(() -> typed(120), RANGE, x -> x.append(c));
        }
        Edge.sentence("2: Throws IllegalStateException if the text already has 120 characters");
        int[] inside = {0, 'l', 255};
        for (int c : inside) {
            Edge.is(typed(119).append(c), 120);
            Edge.refused(() -> typed(120), STATE, x -> x.append(c));
        }
        Edge.sentence("2: Returns the new length of the text.");
        TrimmedLog y = new TrimmedLog();
        for (int n = 1; n <= 120; n++) {
            Edge.is(y.append(n), n);
        }
        // What codes stand for is kept: 'G' + 256 would be another one.
        Edge.is(y.clearText(), 120);
        y.append('G');
        y.append('l');
        y.append('7');
        Edge.is(y.errorPosition(), NONE);
    }

    private static void clearText() {
        Edge.sentence("3: Returns the previous length of the text.");
        int[] lengths = {0, 1, 2, 119, 120};
        for (int n : lengths) {
            TrimmedLog x = typed(n);
            Edge.is(x.clearText(), n);
            Edge.is(x.clearText(), 0);
            Edge.is(x.errorPosition(), 0);
            Edge.is(x.append('G'), 1);
            Edge.is(x.errorPosition(), NONE);
        }
        // The text alone: a text that is typed again shows no difference.
        Edge.alike(Edge::busy, () -> {
            TrimmedLog x = Edge.busy();
            x.clearText();
            Check.type(x, "Gt05w12340");
            return x;
        });
    }

    private static void errorPosition() {
        Edge.sentence("4: Returns the error position of the text; NONE if it is a log.");
        Edge.asked(Edge::busy, NONE, TrimmedLog::errorPosition);
        Edge.asked(Edge::busyWithFault, 11, TrimmedLog::errorPosition);
        Edge.asked(TrimmedLog::new, 0, TrimmedLog::errorPosition);
        Edge.asked(() -> typed(1), NONE, TrimmedLog::errorPosition);
        Edge.asked(() -> typed(2), 2, TrimmedLog::errorPosition);
        Edge.asked(() -> typed(3), 2, TrimmedLog::errorPosition);
        Edge.asked(() -> typed(120), 2, TrimmedLog::errorPosition);
    }

    private static TrimmedLog loadedWith(TrimmedLog x, String text) {
        Check.type(x, text);
        Edge.is(x.load(), 0);
        return x;
    }

    private static void loadAnew() {
        Edge.sentence("5: Makes everything as in a new object, and then does the commands of the text.");
        String[] texts = {"G", "Gt01", "Gs00001s30000j00-w11101w22201t01", "Gj71+w00001r701"};
        for (String text : texts) {
            Edge.alike(() -> loadedWith(new TrimmedLog(), text), () -> loadedWith(Edge.busy(), text));
            Edge.alike(() -> loadedWith(new TrimmedLog(), text), () -> loadedWith(Edge.losing(), text));
        }
        Edge.alike(() -> loadedWith(new TrimmedLog(), "Gt09"), () -> loadedWith(loadedWith(Edge.busy(), "Gj00+t50"), "Gt09"));
        Edge.alike(() -> loadedWith(new TrimmedLog(), "Gw00001"), () -> loadedWith(Edge.rows(200, 40), "Gw00001"));
    }

    private static void loadForgets() {
        Edge.sentence("5: Behind it no state is remembered, and both save slots are empty.");
        Supplier<TrimmedLog> made = () -> {
            TrimmedLog x = Edge.busy();
            x.save(1);
            x.load();
            return x;
        };
        Edge.refused(made, STATE, TrimmedLog::undo);
        Edge.refused(made, STATE, x -> x.restore(0));
        Edge.refused(made, STATE, x -> x.restore(1));
        TrimmedLog y = made.get();
        y.ticks(1);
        Edge.is(y.save(1), 6);
        Edge.is(y.undo(), 0);
        Edge.is(y.about(7), 5);
        Edge.no(y, STATE, y::undo);
        Edge.no(y, STATE, () -> y.restore(0));
        Edge.is(y.restore(1), 6);
    }

    private static void loadKeeps() {
        Edge.sentence("5: Keeps the text, also if it throws the exception.");
        TrimmedLog x = Edge.busy();
        Edge.is(x.load(), 0);
        Edge.is(x.load(), 0);
        Edge.is(x.clearText(), 10);
        TrimmedLog y = Edge.busyWithFault();
        Edge.no(y, STATE, y::load);
        Edge.is(y.clearText(), 11);
        Edge.sentence("5: Throws IllegalStateException if the text is not a log");
        Edge.refused(Edge::busyWithFault, STATE, TrimmedLog::load);
        Edge.refused(() -> typed(0), STATE, TrimmedLog::load);
        Edge.refused(() -> typed(2), STATE, TrimmedLog::load);
        Edge.refused(() -> typed(120), STATE, TrimmedLog::load);
        Edge.is(typed(1).load(), 0);
    }

    private static int leftOut(String text) {
        TrimmedLog x = new TrimmedLog();
        Check.type(x, text);
        return x.load();
    }

    private static void loadCounts() {
        Edge.sentence("5: Returns the number of commands that are left out.");
        Edge.is(leftOut("G"), 0);
        Edge.is(leftOut("Gl0"), 1);
        Edge.is(leftOut("Gl0j00+l0"), 1);
        Edge.is(leftOut("G" + "l0".repeat(59)), 59);
        Edge.is(leftOut("G" + "t01".repeat(39) + "l0"), 1);
        Edge.is(leftOut("Gj00+" + "l0".repeat(57)), 56);
    }

    // ---- 6 to 12

    private static void about() {
        Edge.sentence("6: Throws IllegalArgumentException if what is not 0 to 11");
        int[] outside = {-1, 12, FAR, FAR_BELOW};
        for (int what : outside) {
            Edge.refused(Edge::busy, RANGE, x -> x.about(what));
            Edge.refused(TrimmedLog::new, RANGE, x -> x.about(what));
        }
        int[] want = {7, 2, 3, 80, 2, 1, 1, 1, 1, 0, 0, 0};
        for (int i = 0; i <= 11; i++) {
            int what = i;
            Edge.asked(Edge::busy, want[i], x -> x.about(what));
        }
    }

    private static void aboutHolds() {
        Edge.sentence("6: 4: the readers; 5: those with a hold; 6: those with a gap");
        TrimmedLog x = Edge.log("Gs00001s30000w00001w00001");
        for (int name = 0; name <= 7; name++) {
            x.join(name, 0, true);
            Edge.is(x.about(4), name + 1);
            Edge.is(x.about(5), name + 1);
            Edge.is(x.about(6), 0);
        }
        for (int name = 0; name <= 7; name++) {
            x.hold(name, false);
            Edge.is(x.about(5), 7 - name);
        }
        Edge.is(x.ticks(1), 1);
        for (int name = 0; name <= 7; name++) {
            Edge.is(x.about(6), 8 - name);
            x.leave(name);
            Edge.is(x.about(4), 7 - name);
        }
        Edge.is(x.about(6), 0);
    }

    private static void aboutMissed() {
        Edge.sentence("6: 11: the rows missed so far by all readers, also by those who left");
        TrimmedLog x = Edge.log("Gs00001s30000w00001j00-j10-w00001w00001t01");
        // Missed when told, not before.
        Edge.is(x.about(11), 0);
        x.read(0, 1);
        Edge.is(x.about(11), 2);
        x.leave(0);
        Edge.is(x.about(11), 2);
        x.read(1, 1);
        Edge.is(x.about(11), 4);
        // One who leaves with a gap has missed nothing yet; when it comes again, it may.
        TrimmedLog y = Edge.log("Gs00001s30000w00001j00-w00001t01l0");
        Edge.is(y.about(11), 0);
        y.join(0, 2, false);
        Edge.is(y.read(0, 1), -1);
        Edge.is(y.about(11), 1);
        y.leave(0);
        y.join(0, 0, false);
        Edge.is(y.readerOf(0, 3), 0);
        Edge.is(y.about(11), 1);
    }

    private static void rowOf() {
        Edge.sentence("7: Throws IndexOutOfBoundsException if there is no such row in the log");
        // Rows 2 to 6.
        int[] outside = {-1, 0, 1, 7, 8, 199, 200, 201, FAR, FAR_BELOW};
        for (int i : outside) {
            Edge.refused(Edge::busy, INDEX, x -> x.rowOf(i, 0));
            Edge.refused(Edge::busy, INDEX, x -> x.rowOf(i, 6));
            Edge.refused(Edge::busy, INDEX, x -> x.rowOf(i, -1));
        }
        Edge.refused(() -> Edge.rows(200, 1), INDEX, x -> x.rowOf(200, 0));
        Edge.is(Edge.rows(200, 1).rowOf(199, 1), 99);
        Edge.is(Edge.rows(200, 1).rowOf(0, 1), 0);
        Edge.sentence("7: Throws IllegalArgumentException if what is not 0 to 5");
        int[] whats = {-1, 6, FAR, FAR_BELOW};
        for (int what : whats) {
            Edge.refused(Edge::busy, RANGE, x -> x.rowOf(2, what));
            Edge.refused(Edge::busy, RANGE, x -> x.rowOf(6, what));
        }
        int[][] want = {{1, 13, 10, 0, 2, 1}, {3, 34, 10, 0, 2, 1}, {1, 15, 10, 0, 4, 1}, {2, 26, 10, 0, 4, 1},
            {4, 44, 40, 1, 6, 1}};
        for (int row = 2; row <= 6; row++) {
            for (int what = 0; what <= 5; what++) {
                int r = row;
                int w = what;
                Edge.asked(Edge::busy, want[r - 2][w], x -> x.rowOf(r, w));
            }
        }
    }

    private static void rowHolders() {
        Edge.sentence("7: 5: how many readers with a hold have a place that is not above it");
        TrimmedLog x = Edge.log("Gj00+j10+j20-w00001w00001w00001j31+r101");
        // Places 0 and 1 with a hold, 0 without one, 3 with one.
        Edge.is(x.rowOf(0, 5), 1);
        Edge.is(x.rowOf(1, 5), 2);
        Edge.is(x.rowOf(2, 5), 2);
        x.write(0, 0, 1);
        Edge.is(x.rowOf(2, 5), 2);
        Edge.is(x.rowOf(3, 5), 3);
        x.leave(0);
        x.hold(3, false);
        Edge.is(x.rowOf(0, 5), 0);
        Edge.is(x.rowOf(3, 5), 1);
    }

    private static void segmentOf() {
        Edge.sentence("8: Throws IndexOutOfBoundsException if there is no such segment");
        int[] outside = {-1, 3, 4, FAR, FAR_BELOW};
        for (int k : outside) {
            Edge.refused(Edge::busy, INDEX, x -> x.segmentOf(k, 0));
            Edge.refused(Edge::busy, INDEX, x -> x.segmentOf(k, 6));
            Edge.refused(Edge::busy, INDEX, x -> x.segmentOf(k, -1));
        }
        Edge.refused(() -> Edge.rows(200, 40), INDEX, x -> x.segmentOf(100, 0));
        Edge.is(Edge.rows(200, 40).segmentOf(99, 0), 198);
        Edge.sentence("8: Throws IllegalArgumentException if what is not 0 to 5");
        int[] whats = {-1, 6, FAR, FAR_BELOW};
        for (int what : whats) {
            Edge.refused(Edge::busy, RANGE, x -> x.segmentOf(0, what));
            Edge.refused(Edge::busy, RANGE, x -> x.segmentOf(2, what));
        }
        int[][] want = {{2, 2, 20, 1, 1, 1}, {4, 2, 20, 1, 1, 1}, {6, 1, 40, 0, 1, 1}};
        for (int segment = 0; segment <= 2; segment++) {
            for (int what = 0; what <= 5; what++) {
                int k = segment;
                int w = what;
                Edge.asked(Edge::busy, want[k][w], x -> x.segmentOf(k, w));
            }
        }
    }

    private static void segmentNumbers() {
        Edge.sentence("8: 4: 1 if it is due now (as in a tick, whether it is closed or not), otherwise 0; 5: 1 if it is held now");
        TrimmedLog x = Edge.log("Gs00001w00001t01w00001t01w00001t02j00+r001");
        // Written at 0, 1, 2; now is 4: ages 4, 3, 2.
        for (int age = 0; age <= 5; age++) {
            x.set(2, age);
            Edge.is(x.segmentOf(0, 4), age >= 1 && age <= 4 ? 1 : 0);
            Edge.is(x.segmentOf(1, 4), age >= 1 && age <= 3 ? 1 : 0);
            Edge.is(x.segmentOf(2, 4), age >= 1 && age <= 2 ? 1 : 0);
        }
        x.set(3, 3);
        Edge.is(x.segmentOf(2, 4), 0);
        x.set(3, 2);
        Edge.is(x.segmentOf(0, 4), 1);
        Edge.is(x.segmentOf(2, 4), 1);
        // The reader's place is 1.
        Edge.is(x.segmentOf(0, 5), x.readerOf(0, 0) == 0 ? 1 : 0);
        Edge.is(x.readerOf(0, 0), 1);
        Edge.is(x.segmentOf(1, 5), 1);
        Edge.is(x.segmentOf(2, 5), 1);
        x.read(0, 2);
        Edge.is(x.segmentOf(2, 5), 0);
    }

    /** For names that no reader has: just outside, far away, never joined, and left. */
    private static void noReader(OfName call) {
        int[] names = {-1, 8, FAR, FAR_BELOW, 3, 7, 2};
        for (int name : names) {
            Edge.refused(Edge::busy, INDEX, x -> call.of(x, name));
        }
        Edge.refused(TrimmedLog::new, INDEX, x -> call.of(x, 0));
    }

    private interface OfName {
        int of(TrimmedLog x, int name);
    }

    private static void readerOf() {
        Edge.sentence("9: Throws IndexOutOfBoundsException if there is no such reader");
        noReader((x, name) -> x.readerOf(name, 0));
        noReader((x, name) -> x.readerOf(name, 8));
        noReader((x, name) -> x.readerOf(name, 9));
        noReader((x, name) -> x.readerOf(name, -1));
        Edge.sentence("9: Throws IllegalArgumentException if what is not 0 to 8");
        int[] outside = {-1, 9, FAR, FAR_BELOW};
        for (int what : outside) {
            Edge.refused(Edge::busy, RANGE, x -> x.readerOf(0, what));
            Edge.refused(Edge::busy, RANGE, x -> x.readerOf(1, what));
        }
        int[][] want = {{2, 1, 2, 0, 0, 5, 80, 0, 0}, {0, 0, 0, 0, 0, 5, 80, 2, 0}};
        for (int reader = 0; reader <= 1; reader++) {
            for (int what = 0; what <= 8; what++) {
                int name = reader;
                int w = what;
                Edge.asked(Edge::busy, want[name][w], x -> x.readerOf(name, w));
            }
        }
    }

    private static void readerRest() {
        Edge.sentence("9: 5: the rows of the log from its place on, how many; 6: their length; 7: the rows in its gap, 0 without one");
        TrimmedLog x = Edge.log("Gs00001s30000j00-j10-w00003w00005w00007r001r102");
        Edge.are(what -> x.readerOf(1, 5 + what), 1, 7, 0);
        Edge.are(what -> x.readerOf(0, 5 + what), 2, 12, 0);
        x.read(1, 1);
        Edge.are(what -> x.readerOf(1, 5 + what), 0, 0, 0);
        Edge.is(x.ticks(1), 2);
        // Row 2 is left: a gap of 1 for place 1, none for the end.
        Edge.are(what -> x.readerOf(0, 5 + what), 1, 7, 1);
        Edge.are(what -> x.readerOf(1, 5 + what), 0, 0, 0);
        x.read(0, 1);
        Edge.are(what -> x.readerOf(0, 5 + what), 1, 7, 0);
        TrimmedLog y = Edge.rows(200, 40);
        y.join(0, 0, false);
        Edge.are(what -> y.readerOf(0, 5 + what), 200, 8000, 0);
    }

    private static void readerReason() {
        Edge.sentence("9: 8: the reason by which it lost its hold, 0 if it did not since the latest join() or hold()");
        List<ToIntFunction<TrimmedLog>> ends = List.of(
                x -> x.hold(0, true), x -> x.hold(0, false), x -> x.leave(0) + x.join(0, 0, true),
                x -> x.leave(0) + x.join(0, 1, false), x -> x.leave(0) + x.join(0, 2, false));
        String[] texts = {"Gj00+w00002s40001t01", "Gj00+w00002s50001t01"};
        for (int reason = 1; reason <= 2; reason++) {
            for (ToIntFunction<TrimmedLog> end : ends) {
                TrimmedLog x = Edge.log(texts[reason - 1]);
                Edge.is(x.readerOf(0, 8), reason);
                // Neither a read nor a tick takes it back.
                x.set(4, 0);
                x.set(5, 0);
                x.read(0, 1);
                x.ticks(9);
                Edge.is(x.readerOf(0, 8), reason);
                end.applyAsInt(x);
                Edge.is(x.readerOf(0, 8), 0);
            }
        }
        // The latest one: a hold that was lost by 1, given again, and lost by 2.
        TrimmedLog y = Edge.log("Gj00+w00002s40001t01s40002s50001h0+t01");
        Edge.is(y.readerOf(0, 8), 2);
        Edge.is(y.about(9), 1);
        Edge.is(y.about(10), 1);
    }

    private static void table() {
        Edge.sentence("10: Throws IndexOutOfBoundsException if there is no such reader");
        noReader((x, name) -> x.table(name, 0));
        noReader((x, name) -> x.table(name, 7));
        noReader((x, name) -> x.table(name, 8));
        noReader((x, name) -> x.table(name, -1));
        Edge.sentence("10: Throws IllegalArgumentException if key is out of range");
        int[] outside = {-1, 8, FAR, FAR_BELOW};
        for (int key : outside) {
            Edge.refused(Edge::busy, RANGE, x -> x.table(0, key));
        }
        Edge.sentence("10: Returns the value of the key; NONE if there is none.");
        int[] want = {NONE, 11, 22, NONE, NONE, NONE, NONE, NONE};
        for (int i = 0; i <= 7; i++) {
            int key = i;
            Edge.asked(Edge::busy, want[key], x -> x.table(0, key));
            Edge.asked(Edge::busy, NONE, x -> x.table(1, key));
        }
        TrimmedLog y = Edge.log("Gj00-w00001w79901r002");
        Edge.are(key -> y.table(0, key), 0, NONE, NONE, NONE, NONE, NONE, NONE, 99);
    }

    private static void base() {
        Edge.sentence("11: Throws IllegalArgumentException if key is out of range");
        int[] outside = {-1, 8, FAR, FAR_BELOW};
        for (int key : outside) {
            Edge.refused(Edge::busy, RANGE, x -> x.base(key));
            Edge.refused(TrimmedLog::new, RANGE, x -> x.base(key));
        }
        Edge.sentence("11: Returns the value of the key; NONE if there is none.");
        int[] want = {NONE, 11, 22, NONE, NONE, NONE, NONE, NONE};
        for (int i = 0; i <= 7; i++) {
            int key = i;
            Edge.asked(Edge::busy, want[key], x -> x.base(key));
        }
        TrimmedLog y = Edge.log("Gs00002s30000w00001w79901w11101t01");
        Edge.are(y::base, 0, NONE, NONE, NONE, NONE, NONE, NONE, 99);
    }

    private static void setting() {
        Edge.sentence("12: Throws IllegalArgumentException if what is out of range");
        int[] outside = {-1, 6, FAR, FAR_BELOW};
        for (int what : outside) {
            Edge.refused(Edge::busy, RANGE, x -> x.setting(what));
        }
        Edge.sentence("12: Returns that setting.");
        int[] want = {2, 100, 0, 50, 0, 0};
        for (int i = 0; i <= 5; i++) {
            int what = i;
            Edge.asked(Edge::busy, want[what], x -> x.setting(what));
        }
    }

    // ---- 13 to 20

    private static void write() {
        Edge.sentence("13: Throws IllegalArgumentException if an argument is out of range");
        int[][] outside = {{-1, 0, 1}, {8, 0, 1}, {0, -1, 1}, {0, 100, 1}, {0, 0, 0}, {0, 0, 41}, {0, 0, -1}, {FAR, 0, 1},
            {0, FAR, 1}, {0, 0, FAR}, {FAR_BELOW, 0, 1}, {0, FAR_BELOW, 1}, {0, 0, FAR_BELOW}, {8, 100, 41}, {-1, -1, 0}};
        for (int[] a : outside) {
            Edge.refused(Edge::busy, RANGE, x -> x.write(a[0], a[1], a[2]));
            Edge.refused(TrimmedLog::new, RANGE, x -> x.write(a[0], a[1], a[2]));
        }
        Edge.sentence("13: key 0 to 7, value 0 to 99, length 1 to 40; Returns its number.");
        int[][] inside = {{0, 0, 1}, {7, 0, 1}, {0, 99, 1}, {0, 0, 40}, {7, 99, 40}, {1, 1, 2}, {6, 98, 39}};
        for (int[] a : inside) {
            TrimmedLog x = new TrimmedLog();
            Edge.is(x.write(a[0], a[1], a[2]), 0);
            Edge.are(what -> x.rowOf(0, what), a[0], a[1], a[2], 0, 0, 0);
            TrimmedLog y = Edge.busy();
            Edge.is(y.write(a[0], a[1], a[2]), 7);
            Edge.is(y.truth(a[0], 8, 1), a[1]);
            Edge.is(y.about(3), 80 + a[2]);
        }
    }

    private static void writeFull() {
        Edge.sentence("13: Throws IllegalStateException if 200 rows were written");
        Edge.is(Edge.rows(199, 1).write(0, 0, 1), 199);
        Edge.refused(() -> Edge.rows(200, 1), STATE, x -> x.write(0, 0, 1));
        Edge.refused(() -> Edge.rows(200, 1), STATE, x -> x.write(7, 99, 40));
        Edge.sentence("13: IllegalArgumentException is named first");
        Edge.refused(() -> Edge.rows(200, 1), RANGE, x -> x.write(8, 0, 1));
        Edge.refused(() -> Edge.rows(200, 1), RANGE, x -> x.write(0, 100, 1));
        Edge.refused(() -> Edge.rows(200, 1), RANGE, x -> x.write(0, 0, 41));
        Edge.refused(() -> Edge.rows(200, 1), RANGE, x -> x.write(0, 0, 0));
    }

    private static void join() {
        Edge.sentence("14: Throws IllegalArgumentException if name or how is out of range");
        int[][] outside = {{-1, 0}, {8, 0}, {FAR, 0}, {FAR_BELOW, 0}, {3, -1}, {3, 3}, {3, FAR}, {3, FAR_BELOW},
            {0, -1}, {0, 3}, {2, 3}, {-1, 3}, {8, -1}, {8, 2}};
        for (int[] a : outside) {
            Edge.refused(Edge::busy, RANGE, x -> x.join(a[0], a[1], true));
            Edge.refused(Edge::busy, RANGE, x -> x.join(a[0], a[1], false));
        }
        Edge.sentence("14: Throws IllegalStateException if there is a reader of this name");
        for (int how = 0; how <= 2; how++) {
            int h = how;
            Edge.refused(Edge::busy, STATE, x -> x.join(0, h, true));
            Edge.refused(Edge::busy, STATE, x -> x.join(0, h, false));
            Edge.refused(Edge::busy, STATE, x -> x.join(1, h, false));
        }
        Edge.sentence("14: name: 0 to 7; Returns its place.");
        for (int name = 0; name <= 7; name++) {
            Edge.is(new TrimmedLog().join(name, 0, true), 0);
            Edge.is(new TrimmedLog().join(name, 1, false), 0);
        }
    }

    private static void joinPlaces() {
        Edge.sentence("14: 0: its place is the first row of the log, its table is the base; "
                + "1: its place is the end, its table is what all rows tell (truth() at the end)");
        TrimmedLog x = Edge.busy();
        Edge.is(x.join(3, 0, true), 2);
        Edge.are(key -> x.table(3, key), NONE, 11, 22, NONE, NONE, NONE, NONE, NONE);
        Edge.are(what -> x.readerOf(3, what), 2, 1, 0, 0, 1, 5, 80, 0, 0);
        Edge.is(x.join(4, 1, true), 7);
        Edge.are(key -> x.table(4, key), NONE, 15, 26, 34, 44, NONE, NONE, NONE);
        Edge.are(what -> x.readerOf(4, what), 7, 1, 0, 0, 1, 0, 0, 0, 0);
        Edge.is(x.join(5, 0, false), 2);
        Edge.is(x.readerOf(5, 1), 0);
        // What a row tells later, or the base, is not in a table by itself.
        x.write(7, 77, 1);
        Edge.is(x.table(4, 7), NONE);
        Edge.is(x.join(6, 1, false), 8);
        Edge.is(x.table(6, 7), 77);
        // In a log whose rows are all in the base but for the open segment's.
        TrimmedLog y = Edge.log("Gs00001s30000w11101w22201t01");
        Edge.is(y.join(0, 1, true), 2);
        Edge.are(key -> y.table(0, key), NONE, 11, 22, NONE, NONE, NONE, NONE, NONE);
        Edge.is(y.join(1, 0, true), 1);
        Edge.are(key -> y.table(1, key), NONE, 11, NONE, NONE, NONE, NONE, NONE, NONE);
    }

    private static void joinAgain() {
        Edge.sentence("14: or how is 2, and none of this name has left so far");
        int[] never = {3, 4, 5, 6, 7};
        for (int name : never) {
            Edge.refused(Edge::busy, STATE, x -> x.join(name, 2, true));
            Edge.refused(Edge::busy, STATE, x -> x.join(name, 2, false));
        }
        Edge.is(Edge.busy().join(2, 2, false), 1);
        Edge.sentence("14: with the place and the table that the reader of this name had that left last");
        TrimmedLog x = Edge.log("Gj30+w11101w22201w33301r301l3");
        Edge.is(x.join(3, 2, true), 1);
        Edge.are(key -> x.table(3, key), NONE, 11, NONE, NONE, NONE, NONE, NONE, NONE);
        x.read(3, 1);
        x.leave(3);
        // One who joins otherwise, and has not left yet, is not who left last; then it is.
        Edge.is(x.join(3, 1, false), 3);
        x.undo();
        Edge.is(x.join(3, 2, false), 2);
        Edge.are(key -> x.table(3, key), NONE, 11, 22, NONE, NONE, NONE, NONE, NONE);
        x.leave(3);
        Edge.is(x.join(3, 0, false), 0);
        x.leave(3);
        Edge.is(x.join(3, 2, true), 0);
        Edge.are(key -> x.table(3, key), NONE, NONE, NONE, NONE, NONE, NONE, NONE, NONE);
        // It may come again as often as it leaves, and what others do changes nothing.
        x.leave(3);
        x.join(4, 1, true);
        x.leave(4);
        Edge.is(x.join(3, 2, true), 0);
        Edge.is(x.join(4, 2, true), 3);
    }

    /** Reader 0 left at place 1; the first row of the log is this one. */
    private static TrimmedLog leftAtOne(int first) {
        TrimmedLog x = Edge.log("Gs00001j00-w11101w22201w33301r001l0");
        x.set(3, first == 0 ? 400 : 3 - first);
        x.ticks(1);
        Edge.is(x.about(1), first);
        return x;
    }

    private static void joinWithGap() {
        Edge.sentence("14: or it would have both a hold and a gap");
        Edge.is(leftAtOne(0).join(0, 2, true), 1);
        Edge.is(leftAtOne(1).join(0, 2, true), 1);
        Edge.refused(() -> leftAtOne(2), STATE, x -> x.join(0, 2, true));
        Edge.sentence("14: (perhaps with a gap then)");
        TrimmedLog x = leftAtOne(2);
        Edge.is(x.join(0, 2, false), 1);
        Edge.are(what -> x.readerOf(0, what), 1, 0, 0, 0, 1, 1, 1, 1, 0);
        Edge.is(x.table(0, 1), 11);
        Edge.is(x.table(0, 2), NONE);
        Edge.is(x.read(0, 50), -1);
        Edge.is(x.table(0, 2), 22);
        // The others ways never make a gap.
        Edge.is(leftAtOne(2).join(0, 0, true), 2);
        Edge.is(leftAtOne(2).join(0, 1, true), 3);
    }

    private static void joinCounts() {
        Edge.sentence("14: rows read and missed are counted from 0 on in each case; the time when it read last is that of now");
        for (int how = 0; how <= 2; how++) {
            TrimmedLog x = Edge.log("Gs00001s30000j00-w11101w22201t01r001r001w33301");
            Edge.is(x.readerOf(0, 2), 1);
            Edge.is(x.readerOf(0, 3), 1);
            Edge.is(x.readerOf(0, 4), 1);
            x.ticks(7);
            x.leave(0);
            x.join(0, how, false);
            Edge.is(x.readerOf(0, 2), 0);
            Edge.is(x.readerOf(0, 3), 0);
            Edge.is(x.readerOf(0, 4), 8);
            Edge.is(x.readerOf(0, 8), 0);
            Edge.is(x.about(11), 1);
        }
    }

    private static void read() {
        Edge.sentence("15: Throws IndexOutOfBoundsException if there is no such reader");
        noReader((x, name) -> x.read(name, 1));
        noReader((x, name) -> x.read(name, 50));
        noReader((x, name) -> x.read(name, 0));
        noReader((x, name) -> x.read(name, 51));
        Edge.sentence("15: Throws IllegalArgumentException if n is out of range");
        int[] outside = {0, -1, 51, FAR, FAR_BELOW};
        for (int n : outside) {
            Edge.refused(Edge::busy, RANGE, x -> x.read(0, n));
            // Of a gap one is not told by it either.
            Edge.refused(Edge::busy, RANGE, x -> x.read(1, n));
        }
        Edge.sentence("15: n: 1 to 50: how many rows at most");
        for (int n = 1; n <= 50; n++) {
            TrimmedLog x = Edge.rows(50, 1);
            x.join(0, 0, false);
            Edge.is(x.read(0, n), n);
            Edge.is(x.readerOf(0, 0), n);
            Edge.is(x.readerOf(0, 2), n);
        }
    }

    private static void readAnswers() {
        Edge.sentence("15: Returns how many rows it reads (0 at the end); if it is told of a gap, the rows missed, below 0");
        int[] rows = {0, 1, 2, 49, 50, 51, 100};
        for (int there : rows) {
            TrimmedLog x = Edge.rows(there, 1);
            x.join(0, 0, true);
            Edge.is(x.read(0, 50), Math.min(there, 50));
            Edge.is(x.read(0, 50), Math.max(0, Math.min(there - 50, 50)));
            Edge.is(x.read(0, 50), 0);
            Edge.is(x.read(0, 1), 0);
            Edge.is(x.readerOf(0, 0), there);
        }
        int[] gaps = {1, 2, 3, 50, 51, 199};
        for (int gap : gaps) {
            TrimmedLog x = new TrimmedLog();
            x.set(0, 1);
            x.set(3, 0);
            x.join(0, 0, false);
            for (int i = 0; i <= gap; i++) {
                x.write(1, 1, 1);
            }
            Edge.is(x.ticks(1), gap);
            Edge.is(x.read(0, 1), -gap);
            Edge.is(x.readerOf(0, 3), gap);
            Edge.is(x.about(11), gap);
            Edge.is(x.read(0, 1), 1);
            Edge.is(x.read(0, 1), 0);
        }
    }

    private static void leave() {
        Edge.sentence("16: Throws IndexOutOfBoundsException if there is no such reader");
        noReader(TrimmedLog::leave);
        Edge.sentence("16: Returns how many readers there are then.");
        TrimmedLog x = new TrimmedLog();
        for (int name = 0; name <= 7; name++) {
            x.join(name, 0, true);
        }
        int[] order = {7, 0, 3, 6, 1, 5, 2, 4};
        for (int i = 0; i < 8; i++) {
            int name = order[i];
            Edge.is(x.leave(name), 7 - i);
            Edge.no(x, INDEX, () -> x.leave(name));
        }
        // It may leave with a hold, and with a gap; neither is there then.
        TrimmedLog y = Edge.busy();
        Edge.is(y.leave(0), 1);
        Edge.is(y.about(5), 0);
        Edge.is(y.why(), 0);
        Edge.is(y.leave(1), 0);
        Edge.is(y.about(6), 0);
    }

    private static void hold() {
        Edge.sentence("17: Throws IndexOutOfBoundsException if there is no such reader");
        noReader((x, name) -> x.hold(name, true));
        noReader((x, name) -> x.hold(name, false));
        Edge.sentence("17: Returns 1 if it had one, otherwise 0.");
        TrimmedLog x = Edge.log("Gj00-");
        Edge.is(x.hold(0, false), 0);
        Edge.is(x.hold(0, true), 0);
        Edge.is(x.hold(0, true), 1);
        Edge.is(x.hold(0, false), 1);
        Edge.is(x.hold(0, false), 0);
        // One that was lost is none.
        TrimmedLog y = Edge.log("Gj01+s50001t01");
        Edge.is(y.hold(0, true), 0);
        Edge.is(y.hold(0, true), 1);
    }

    /** Reader 0 is at place 1, without a hold; the first row of the log is this one. */
    private static TrimmedLog standsAtOne(int first) {
        TrimmedLog x = Edge.log("Gs00001j00-w11101w22201w33301r001");
        x.set(3, first == 0 ? 400 : 3 - first);
        x.ticks(1);
        Edge.is(x.about(1), first);
        return x;
    }

    private static void holdWithGap() {
        Edge.sentence("17: Throws IllegalStateException if held, and it has a gap");
        Edge.is(standsAtOne(0).hold(0, true), 0);
        Edge.is(standsAtOne(1).hold(0, true), 0);
        Edge.refused(() -> standsAtOne(2), STATE, x -> x.hold(0, true));
        Edge.refused(Edge::busy, STATE, x -> x.hold(1, true));
        Edge.is(standsAtOne(2).hold(0, false), 0);
        TrimmedLog told = standsAtOne(2);
        told.read(0, 1);
        Edge.is(told.hold(0, true), 0);
        Edge.is(told.readerOf(0, 1), 1);
    }

    private static void set() {
        Edge.sentence("18: Throws IllegalArgumentException if what or v is out of range");
        int[][] outside = {{-1, 1}, {6, 1}, {FAR, 1}, {FAR_BELOW, 1}, {-1, -1}, {6, -1}, {-1, 50}, {6, 50},
            {0, 0}, {0, 9}, {1, 39}, {1, 201}, {2, -1}, {2, 100}, {3, -1}, {3, 4001}, {4, -1}, {4, 4001}, {5, -1}, {5, 100},
            {0, FAR}, {1, FAR_BELOW}, {2, FAR}, {3, FAR_BELOW}, {4, FAR}, {5, FAR_BELOW}};
        for (int[] a : outside) {
            Edge.refused(Edge::busy, RANGE, x -> x.set(a[0], a[1]));
        }
        Edge.sentence("18: Returns the previous one.");
        int[][] values = {{1, 8, 2, 7}, {40, 200, 41, 199}, {0, 99, 1, 98}, {0, 4000, 1, 3999}, {0, 4000, 1, 3999},
            {0, 99, 1, 98}};
        int[] first = {4, 100, 0, 400, 0, 0};
        for (int what = 0; what <= 5; what++) {
            TrimmedLog x = new TrimmedLog();
            int before = first[what];
            for (int v : values[what]) {
                Edge.is(x.set(what, v), before);
                Edge.is(x.setting(what), v);
                before = v;
            }
            for (int other = 0; other <= 5; other++) {
                Edge.is(x.setting(other), other == what ? before : first[other]);
            }
        }
    }

    private static void ticks() {
        Edge.sentence("19: Throws IllegalArgumentException if n is out of range");
        int[] outside = {0, -1, 100, FAR, FAR_BELOW};
        for (int n : outside) {
            Edge.refused(Edge::busy, RANGE, x -> x.ticks(n));
        }
        Edge.sentence("19: n: 1 to 99");
        int[] inside = {1, 2, 98, 99};
        for (int n : inside) {
            TrimmedLog x = Edge.busy();
            x.ticks(n);
            Edge.is(x.about(7), 1 + n);
            Edge.is(x.undo(), 5);
            Edge.is(x.about(7), 1);
        }
    }

    private static void ticksAnswer() {
        Edge.sentence("19: Returns how many segments are dropped in them.");
        // Written at 0, 1, 2, 3, and one more: with an age of 9, one goes in each of the ticks 9 to 12.
        for (int n = 1; n <= 20; n++) {
            TrimmedLog x = Edge.log("Gs00001w00001t01w00001t01w00001t01w00001w00001s20009");
            Edge.is(x.ticks(n), Math.max(0, Math.min(n - 5, 4)));
            Edge.is(x.about(8), Math.max(0, Math.min(n - 5, 4)));
            Edge.is(x.ticks(99), 4 - Math.max(0, Math.min(n - 5, 4)));
        }
        Edge.is(new TrimmedLog().ticks(99), 0);
    }

    private static void undo() {
        Edge.sentence("20: Returns how many states are still remembered.");
        int[] actions = {1, 2, 13, 14, 15};
        for (int n : actions) {
            TrimmedLog x = new TrimmedLog();
            for (int i = 0; i < n; i++) {
                x.ticks(1);
            }
            Edge.is(x.undo(), Math.min(n, 14) - 1);
            Edge.is(x.about(7), n - 1);
            // One more in the place of the one that was taken back.
            x.ticks(9);
            Edge.is(x.undo(), Math.min(n, 14) - 1);
            Edge.is(x.about(7), n - 1);
        }
        Edge.sentence("20: Throws IllegalStateException if none is remembered");
        Edge.refused(TrimmedLog::new, STATE, TrimmedLog::undo);
        Edge.refused(() -> {
            TrimmedLog x = Edge.busy();
            for (int left = 4; left >= 0; left--) {
                Edge.is(x.undo(), left);
            }
            return x;
        }, STATE, TrimmedLog::undo);
        Edge.refused(() -> {
            TrimmedLog x = Edge.busy();
            x.restore(0);
            return x;
        }, STATE, TrimmedLog::undo);
    }

    // ---- 21 to 27

    private static TrimmedLog withRoom(String text, int room) {
        TrimmedLog x = Edge.log(text);
        x.set(3, room);
        return x;
    }

    private static void why() {
        Edge.sentence("21: Returns 0 if it is closed, due and not held now; otherwise the first of these that is so: "
                + "1 there is no closed segment; 2 it is not due; 3 it is held.");
        Edge.asked(TrimmedLog::new, 1, TrimmedLog::why);
        Edge.asked(() -> withRoom("Gs00001w00010", 10), 1, TrimmedLog::why);
        // Without a closed segment it is 1 whether or not the open one is due and held.
        Edge.asked(() -> withRoom("Gs00001j00+w00010", 0), 1, TrimmedLog::why);
        Edge.asked(() -> withRoom("Gs00001w00010w00010", 20), 2, TrimmedLog::why);
        Edge.asked(() -> withRoom("Gs00001w00010w00010", 19), 0, TrimmedLog::why);
        // Not due comes ahead of held.
        Edge.asked(() -> withRoom("Gs00001j00+w00010w00010", 20), 2, TrimmedLog::why);
        Edge.asked(() -> withRoom("Gs00001j00+w00010w00010", 19), 3, TrimmedLog::why);
        Edge.asked(() -> withRoom("Gs00001j00-w00010w00010", 19), 0, TrimmedLog::why);
        Edge.asked(() -> withRoom("Gs00001j00+w00010w00010r001", 19), 0, TrimmedLog::why);
        Edge.asked(() -> withRoom("Gs00002j00+w00010w00010w00010r001", 19), 3, TrimmedLog::why);
        Edge.asked(() -> withRoom("Gs00002j00+w00010w00010w00010r002", 19), 0, TrimmedLog::why);
        // Now, not at the next tick: the row is 4 old.
        Edge.asked(() -> withRoom("Gs00001w00010w00010t04s20005", 20), 2, TrimmedLog::why);
        Edge.asked(() -> withRoom("Gs00001w00010w00010t04s20004", 20), 0, TrimmedLog::why);
        Edge.asked(() -> withRoom("Gs00001w00010w00010t99s20000", 20), 2, TrimmedLog::why);
        // Neither is a hold looked at that the next tick takes.
        Edge.asked(() -> withRoom("Gs00001j00+w00010w00010t01s50001", 19), 3, TrimmedLog::why);
        Edge.asked(Edge::busy, 3, TrimmedLog::why);
    }

    private static void slowest() {
        Edge.sentence("22: Returns of the readers with a hold the one with the least place, of several the lowest name; "
                + "NONE if there is none.");
        Edge.asked(TrimmedLog::new, NONE, TrimmedLog::slowest);
        Edge.asked(() -> Edge.log("Gj00-"), NONE, TrimmedLog::slowest);
        Edge.asked(() -> Edge.log("Gj00+l0"), NONE, TrimmedLog::slowest);
        Edge.asked(() -> Edge.log("Gj70+"), 7, TrimmedLog::slowest);
        Edge.asked(() -> Edge.log("Gj70+j00+"), 0, TrimmedLog::slowest);
        Edge.asked(() -> Edge.log("Gj70+j00-"), 7, TrimmedLog::slowest);
        Edge.asked(() -> Edge.log("Gw00001j70+j01+"), 7, TrimmedLog::slowest);
        Edge.asked(() -> Edge.log("Gw00001j70+j01+r701"), 0, TrimmedLog::slowest);
        Edge.asked(() -> Edge.log("Gw00001w00001j50+j60+j40+r402r501"), 6, TrimmedLog::slowest);
        Edge.asked(() -> Edge.log("Gw00001w00001j50+j60+j40+r402r501r602"), 5, TrimmedLog::slowest);
        Edge.asked(() -> Edge.log("Gw00001w00001j50+j60+j40+r402r502r602"), 4, TrimmedLog::slowest);
        // At the end a reader with a hold is one too, also with 200 rows.
        Edge.asked(() -> {
            TrimmedLog x = Edge.rows(200, 1);
            x.join(6, 1, true);
            return x;
        }, 6, TrimmedLog::slowest);
        // One with a gap has no hold: its place, though less, is not looked at.
        Edge.asked(Edge::busy, 0, TrimmedLog::slowest);
    }

    private static void truth() {
        Edge.sentence("23: Throws IndexOutOfBoundsException if row is out of range");
        int[] outside = {-1, 0, 1, 8, 9, 200, 201, FAR, FAR_BELOW};
        for (int row : outside) {
            Edge.refused(Edge::busy, INDEX, x -> x.truth(0, row, 0));
            Edge.refused(Edge::busy, INDEX, x -> x.truth(0, row, 1));
            // Named first, also with a key or a way that is out of range.
            Edge.refused(Edge::busy, INDEX, x -> x.truth(8, row, 0));
            Edge.refused(Edge::busy, INDEX, x -> x.truth(0, row, 2));
            Edge.refused(Edge::busy, INDEX, x -> x.truth(-1, row, -1));
        }
        Edge.refused(TrimmedLog::new, INDEX, x -> x.truth(0, 1, 0));
        Edge.refused(TrimmedLog::new, INDEX, x -> x.truth(0, -1, 0));
        Edge.sentence("23: Throws IllegalArgumentException if key is out of range, or way is neither 0 nor 1");
        int[][] wrong = {{-1, 0}, {8, 0}, {-1, 1}, {8, 1}, {0, -1}, {0, 2}, {7, 2}, {FAR, 0}, {FAR_BELOW, 1}, {0, FAR},
            {0, FAR_BELOW}, {8, 2}};
        for (int[] a : wrong) {
            Edge.refused(Edge::busy, RANGE, x -> x.truth(a[0], 2, a[1]));
            Edge.refused(Edge::busy, RANGE, x -> x.truth(a[0], 7, a[1]));
            Edge.refused(TrimmedLog::new, RANGE, x -> x.truth(a[0], 0, a[1]));
        }
    }

    private static void truthBehind() {
        Edge.sentence("23: Returns the value of the key behind all rows below this one, those that were dropped too; "
                + "NONE if no row had it (the same for both ways).");
        // Base 11, 22 of keys 1, 2; rows 2 to 6 are 1:13, 3:34, 1:15, 2:26, 4:44.
        int[][] want = {{NONE, 11, 22, NONE, NONE, NONE, NONE, NONE}, {NONE, 13, 22, NONE, NONE, NONE, NONE, NONE},
            {NONE, 13, 22, 34, NONE, NONE, NONE, NONE}, {NONE, 15, 22, 34, NONE, NONE, NONE, NONE},
            {NONE, 15, 26, 34, NONE, NONE, NONE, NONE}, {NONE, 15, 26, 34, 44, NONE, NONE, NONE}};
        for (int row = 2; row <= 7; row++) {
            for (int key = 0; key <= 7; key++) {
                int r = row;
                int k = key;
                Edge.asked(Edge::busy, want[r - 2][k], x -> x.truth(k, r, 0));
                Edge.asked(Edge::busy, want[r - 2][k], x -> x.truth(k, r, 1));
            }
        }
        Edge.asked(TrimmedLog::new, NONE, x -> x.truth(0, 0, 0));
        Edge.asked(TrimmedLog::new, NONE, x -> x.truth(7, 0, 1));
        // The row itself does not count, the one below does; 0 is a value.
        Edge.asked(() -> Edge.log("Gw00001w09901"), NONE, x -> x.truth(0, 0, 0));
        Edge.asked(() -> Edge.log("Gw00001w09901"), NONE, x -> x.truth(0, 0, 1));
        Edge.asked(() -> Edge.log("Gw00001w09901"), 0, x -> x.truth(0, 1, 0));
        Edge.asked(() -> Edge.log("Gw00001w09901"), 0, x -> x.truth(0, 1, 1));
        Edge.asked(() -> Edge.log("Gw00001w09901"), 99, x -> x.truth(0, 2, 0));
        Edge.asked(() -> Edge.log("Gw00001w09901"), 99, x -> x.truth(0, 2, 1));
        Edge.asked(() -> Edge.rows(200, 1), 99, x -> x.truth(7, 200, 0));
        Edge.asked(() -> Edge.rows(200, 1), 91, x -> x.truth(7, 199, 1));
    }

    private static void droppedIn() {
        Edge.sentence("24: Returns behind how many ticks, 1 to 300, if nothing else is done; NONE if none is by then.");
        Edge.asked(TrimmedLog::new, NONE, TrimmedLog::droppedIn);
        Edge.asked(() -> withRoom("Gs00001w00010", 0), NONE, TrimmedLog::droppedIn);
        Edge.asked(() -> withRoom("Gs00001w00010w00010", 20), NONE, TrimmedLog::droppedIn);
        Edge.asked(() -> withRoom("Gs00001w00010w00010", 19), 1, TrimmedLog::droppedIn);
        for (int age = 1; age <= 99; age++) {
            TrimmedLog x = Edge.log("Gs00001w00001w00001");
            x.set(2, age);
            Edge.is(x.droppedIn(), age);
            // Between asking and dropping there is nothing but ticks.
            if (age > 1) {
                Edge.is(x.ticks(age - 1), 0);
            }
            Edge.is(x.droppedIn(), 1);
            Edge.is(x.ticks(1), 1);
            Edge.is(x.droppedIn(), NONE);
        }
        Edge.sentence("24: Tells when the next segment is dropped.");
        TrimmedLog y = Edge.log("Gs00001w00001t05w00001t01w00001s20010");
        Edge.is(y.droppedIn(), 4);
        y.ticks(4);
        Edge.is(y.droppedIn(), 5);
        y.ticks(5);
        Edge.is(y.droppedIn(), NONE);
    }

    private static void droppedInByHolds() {
        Edge.sentence("24: if nothing else is done; NONE if none is by then.");
        Edge.asked(Edge::busy, NONE, TrimmedLog::droppedIn);
        for (int sleep = 1; sleep <= 99; sleep += 7) {
            TrimmedLog x = Edge.log("Gs00001s30000j00+w00001w00001");
            x.set(5, sleep);
            Edge.is(x.droppedIn(), sleep);
        }
        // The later one of both: the age, and the sleep.
        TrimmedLog y = Edge.log("Gs00001j00+w00001w00001s20030s50040");
        Edge.is(y.droppedIn(), 40);
        y.set(2, 41);
        Edge.is(y.droppedIn(), 41);
        y.set(2, 99);
        y.set(5, 99);
        Edge.is(y.droppedIn(), 99);
        y.set(5, 0);
        Edge.is(y.droppedIn(), NONE);
        y.set(4, 2);
        Edge.is(y.droppedIn(), NONE);
        y.set(4, 1);
        Edge.is(y.droppedIn(), 99);
    }

    private static void lostIn() {
        Edge.sentence("25: Throws IndexOutOfBoundsException if there is no such reader");
        noReader(TrimmedLog::lostIn);
        Edge.sentence("25: Returns behind how many ticks, 1 to 300, if nothing else is done; NONE if it is not by then, "
                + "or there is no hold.");
        Edge.asked(Edge::busy, NONE, x -> x.lostIn(0));
        Edge.asked(Edge::busy, NONE, x -> x.lostIn(1));
        Edge.asked(() -> Edge.log("Gj00-w00010s40009s50001"), NONE, x -> x.lostIn(0));
        Edge.asked(() -> Edge.log("Gj00+w00010s40010"), NONE, x -> x.lostIn(0));
        Edge.asked(() -> Edge.log("Gj00+w00010s40009"), 1, x -> x.lostIn(0));
        Edge.asked(() -> Edge.log("Gj00+w00010s40010s50099"), 99, x -> x.lostIn(0));
        Edge.asked(() -> Edge.log("Gj00+w00010s40009s50099"), 1, x -> x.lostIn(0));
        Edge.asked(() -> Edge.log("Gj00+t50s50049"), 1, x -> x.lostIn(0));
        for (int sleep = 1; sleep <= 99; sleep++) {
            TrimmedLog x = Edge.log("Gt03j70+");
            x.set(5, sleep);
            Edge.is(x.lostIn(7), sleep);
            if (sleep > 1) {
                x.ticks(sleep - 1);
                Edge.is(x.lostIn(7), 1);
            }
            x.ticks(1);
            Edge.is(x.lostIn(7), NONE);
            Edge.is(x.readerOf(7, 8), 2);
        }
        // Of this reader: another one loses its hold first.
        TrimmedLog y = Edge.log("Gj00+t04j10+s50010");
        Edge.is(y.lostIn(0), 6);
        Edge.is(y.lostIn(1), 10);
    }

    private static void ifFree() {
        Edge.sentence("26: Throws IndexOutOfBoundsException if there is no such reader");
        noReader(TrimmedLog::ifFree);
        Edge.sentence("26: Returns how many segments would be dropped in the next tick, if this reader had no hold.");
        // Busy: 80 long, 20 in each closed segment, and 50 is not too much.
        Edge.asked(Edge::busy, 2, x -> x.ifFree(0));
        Edge.asked(Edge::busy, 0, x -> x.ifFree(1));
        for (int room = 0; room <= 41; room++) {
            TrimmedLog x = withRoom("Gs00001j00+w00010w00010w00010w00010", room);
            Edge.is(x.ifFree(0), room < 20 ? 3 : room < 30 ? 2 : room < 40 ? 1 : 0);
            Edge.is(x.ticks(1), 0);
        }
        Edge.asked(() -> withRoom("Gj00+w00010", 0), 0, x -> x.ifFree(0));
        // One without a hold: what is dropped anyway.
        Edge.asked(() -> withRoom("Gs00001j00-w00010w00010", 0), 1, x -> x.ifFree(0));
        // In the next tick, not now, and not in the one behind it.
        Edge.asked(() -> withRoom("Gs00001j00+w00010w00010s20001", 20), 1, x -> x.ifFree(0));
        Edge.asked(() -> withRoom("Gs00001j00+w00010w00010s20002", 20), 0, x -> x.ifFree(0));
    }

    private static void ifFreeOthers() {
        Edge.sentence("26: if this reader had no hold");
        // Another one holds back what is behind its place; two at one place hold for one another.
        for (int place = 0; place <= 4; place++) {
            TrimmedLog x = withRoom("Gs00001j00+j10+w00010w00010w00010w00010", 0);
            if (place > 0) {
                x.read(1, place);
            }
            Edge.is(x.ifFree(0), Math.min(place, 3));
            Edge.is(x.ifFree(1), 0);
        }
        // The other one's hold is lost in that very tick, or not yet.
        Edge.asked(() -> withRoom("Gs00001j00+j10+w00010w00010s50001", 0), 1, x -> x.ifFree(0));
        Edge.asked(() -> withRoom("Gs00001j00+j10+w00010w00010s50002", 0), 0, x -> x.ifFree(0));
        Edge.asked(() -> withRoom("Gs00001j00+j10+w00010w00010s40019", 0), 1, x -> x.ifFree(0));
        Edge.asked(() -> withRoom("Gs00001j00+j10+w00010w00010s40020", 0), 0, x -> x.ifFree(0));
    }

    private static void leastRoom() {
        Edge.sentence("27: Throws IllegalArgumentException if n is out of range");
        int[] outside = {0, -1, 201, FAR, FAR_BELOW};
        for (int n : outside) {
            Edge.refused(Edge::busy, RANGE, x -> x.leastRoom(n));
        }
        Edge.sentence("27: n: 1 to 200");
        Edge.asked(TrimmedLog::new, 0, x -> x.leastRoom(1));
        Edge.asked(TrimmedLog::new, 0, x -> x.leastRoom(200));
        Edge.sentence("27: Returns the least value of setting 3, 0 to 4000, with which no segment would be dropped in n ticks");
        Edge.asked(() -> Edge.log("Gw00040"), 0, x -> x.leastRoom(200));
        // Whatever setting 3 is now.
        int[] rooms = {0, 1, 19, 20, 21, 4000};
        for (int room : rooms) {
            Edge.asked(() -> withRoom("Gs00001w00010w00010", room), 20, x -> x.leastRoom(1));
            Edge.asked(() -> withRoom("Gs00001w00010w00010", room), 20, x -> x.leastRoom(200));
        }
        // It is the least: one less, and a segment goes.
        TrimmedLog y = Edge.log("Gs00001w00001w00001w00001");
        Edge.is(y.leastRoom(1), 3);
        y.set(3, 3);
        Edge.is(y.ticks(99), 0);
        y.set(3, 2);
        Edge.is(y.ticks(1), 1);
        Edge.asked(Edge::busy, 0, x -> x.leastRoom(200));
    }

    private static void leastRoomTicks() {
        Edge.sentence("27: in n ticks, if nothing else is done; NONE if there is none.");
        for (int n = 1; n <= 200; n++) {
            // By age one goes in tick 99; the hold is lost in tick 50.
            TrimmedLog x = Edge.log("Gs00001w00001w00001s20099j00+s50050");
            Edge.is(x.leastRoom(n), n < 50 ? 0 : n < 99 ? 2 : NONE);
            x.hold(0, false);
            Edge.is(x.leastRoom(n), n < 99 ? 2 : NONE);
            x.hold(0, true);
            x.set(5, 0);
            Edge.is(x.leastRoom(n), 0);
        }
    }

    private static void leastRoomGreatest() {
        Edge.sentence("27: 0 to 4000, .. NONE if there is none");
        int[] rows = {99, 100};
        for (int full : rows) {
            for (int last = 39; last <= 40; last++) {
                int length = last;
                Supplier<TrimmedLog> made = () -> {
                    TrimmedLog x = Edge.rows(full, 40);
                    x.write(0, 0, length);
                    return x;
                };
                int sum = 40 * full + last;
                Edge.asked(made, sum <= 4000 ? sum : NONE, x -> x.leastRoom(1));
                Edge.asked(made, sum <= 4000 ? sum : NONE, x -> x.leastRoom(200));
            }
        }
        Supplier<TrimmedLog> over = () -> {
            TrimmedLog x = Edge.rows(100, 40);
            x.write(0, 0, 1);
            return x;
        };
        Edge.asked(over, NONE, x -> x.leastRoom(1));
        TrimmedLog held = over.get();
        held.join(0, 0, true);
        Edge.is(held.leastRoom(200), 0);
    }

    // ---- 28

    private static void scriptArguments() {
        Edge.sentence("28: Throws IllegalArgumentException if n is out of range, or if script is negative or has more than "
                + "6 * n digits");
        int[] counts = {0, -1, 4, FAR, FAR_BELOW};
        for (int n : counts) {
            Edge.refused(Edge::busy, RANGE, x -> x.runScript(n, 500001));
            Edge.refused(Edge::busy, RANGE, x -> x.runScript(n, 0));
            Edge.refused(Edge::busy, RANGE, x -> x.runScript(n, -1));
        }
        long[] most = {999999L, 999999999999L, 999999999999999999L};
        for (int i = 1; i <= 3; i++) {
            int n = i;
            long greatest = most[n - 1];
            Edge.refused(Edge::busy, RANGE, x -> x.runScript(n, -1));
            Edge.refused(Edge::busy, RANGE, x -> x.runScript(n, Long.MIN_VALUE));
            Edge.refused(Edge::busy, RANGE, x -> x.runScript(n, greatest + 1));
            Edge.refused(Edge::busy, RANGE, x -> x.runScript(n, Long.MAX_VALUE));
            Edge.asked(Edge::busy, 0, x -> x.runScript(n, greatest));
            Edge.asked(Edge::busy, 0, x -> x.runScript(n, 0));
        }
        Edge.refused(Edge::busy, RANGE, x -> x.runScript(1, 500001500001L));
        Edge.refused(Edge::busy, RANGE, x -> x.runScript(2, 500001500001500001L));
    }

    private static void scriptOrder() {
        Edge.sentence("28: the first command is the highest group of the number (with zeros before it, if it has fewer digits); "
                + "Returns the index, from 0, of the first command that fails; NONE if all succeed.");
        Edge.asked(Edge::busy, NONE, x -> x.runScript(1, 500001));
        Edge.asked(Edge::busy, 0, x -> x.runScript(2, 500001));
        Edge.asked(Edge::busy, 0, x -> x.runScript(3, 500001));
        Edge.asked(Edge::busy, NONE, x -> x.runScript(2, 500001500001L));
        Edge.asked(Edge::busy, 1, x -> x.runScript(2, 500001000000L));
        Edge.asked(Edge::busy, 0, x -> x.runScript(3, 500001500001L));
        Edge.asked(Edge::busy, NONE, x -> x.runScript(3, 500001500001500001L));
        Edge.asked(Edge::busy, 2, x -> x.runScript(3, 500001500001000000L));
        Edge.asked(Edge::busy, 1, x -> x.runScript(3, 500001000000500001L));
        Edge.asked(Edge::busy, 1, x -> x.runScript(3, 500001000000000000L));
        // What a command does, the next one finds: leave, then there is none to leave.
        Edge.asked(Edge::busy, 1, x -> x.runScript(2, 400000400000L));
        Edge.asked(Edge::busy, NONE, x -> x.runScript(2, 400000410000L));
        Edge.asked(Edge::busy, NONE, x -> x.runScript(3, 400000302000L * 1000000 + 600002));
        Edge.sentence("28: Runs a script on a copy of the state.");
        TrimmedLog y = Edge.busy();
        Edge.is(y.runScript(2, 400000400000L), 1);
        Edge.is(y.runScript(2, 400000400000L), 1);
        Edge.is(y.about(4), 2);
    }

    private static void succeed(String groups) {
        for (String group : groups.split(" ")) {
            Edge.asked(Edge::busy, NONE, x -> x.runScript(1, Long.parseLong(group)));
        }
    }

    private static void fail(String groups) {
        for (String group : groups.split(" ")) {
            Edge.asked(Edge::busy, 0, x -> x.runScript(1, Long.parseLong(group)));
        }
    }

    private static void scriptWrite() {
        Edge.sentence("28: 1 k v v l l: write(k, vv, ll)");
        succeed("100001 170001 109901 100040 179940 156739");
        fail("180001 190001 100000 100041 100050 100099 170000");
        // Key 7, value 99, length 40 are what is written.
        Edge.asked(Edge::busy, NONE, x -> x.runScript(2, 179940770099L));
        Edge.asked(Edge::busy, NONE, x -> x.runScript(2, 100001700000L));
        Edge.asked(Edge::busy, 1, x -> x.runScript(2, 179940770098L));
        Edge.asked(() -> Edge.rows(199, 1), NONE, x -> x.runScript(1, 100001));
        Edge.asked(() -> Edge.rows(199, 1), 1, x -> x.runScript(2, 100001100001L));
        Edge.asked(() -> Edge.rows(200, 1), 0, x -> x.runScript(1, 100001));
    }

    private static void scriptRead() {
        Edge.sentence("28: 2 n 0 0 m m: read(n, mm); succeeds if it reads or misses any row.");
        // Reader 0 may read 5 rows, reader 1 has a gap; 2 has left, 3 was never there.
        succeed("200001 200050 210001 210050");
        fail("200000 200051 200099 210000 210051 220001 230001 270001 280001 290001 201001 200101 209901 211001");
        Edge.asked(Edge::busy, NONE, x -> x.runScript(2, 200004200001L));
        Edge.asked(Edge::busy, 1, x -> x.runScript(2, 200005200001L));
        Edge.asked(Edge::busy, 1, x -> x.runScript(2, 200050200050L));
        Edge.asked(Edge::busy, NONE, x -> x.runScript(3, 210001210005610007L));
        Edge.asked(Edge::busy, 2, x -> x.runScript(3, 210001210005210001L));
        Edge.asked(() -> Edge.log("Gj00+"), 0, x -> x.runScript(1, 200001));
    }

    private static void scriptJoin() {
        Edge.sentence("28: 3 n h 0 0 b: join(n, h, b is 1).");
        succeed("330000 330001 331000 331001 370000 322000 320001");
        fail("332000 332001 333000 339000 300000 301001 310000 380000 390001 330002 330009 330010 330100 331101 322001");
        // With a hold or without; at the first row or at the end.
        Edge.asked(Edge::busy, NONE, x -> x.runScript(2, 330001930001L));
        Edge.asked(Edge::busy, 1, x -> x.runScript(2, 330001930000L));
        Edge.asked(Edge::busy, NONE, x -> x.runScript(2, 330000930000L));
        Edge.asked(Edge::busy, NONE, x -> x.runScript(2, 330001630002L));
        Edge.asked(Edge::busy, 1, x -> x.runScript(2, 330001630003L));
        Edge.asked(Edge::busy, NONE, x -> x.runScript(2, 331001630007L));
        Edge.asked(Edge::busy, 1, x -> x.runScript(2, 331001630008L));
        Edge.asked(Edge::busy, NONE, x -> x.runScript(2, 322000620001L));
        Edge.asked(Edge::busy, 1, x -> x.runScript(2, 322000620002L));
    }

    private static void scriptLeave() {
        Edge.sentence("28: 4 n 0 0 0 0: leave(n).");
        succeed("400000 410000");
        fail("420000 430000 470000 480000 490000 401000 400100 400010 400001 410001");
    }

    private static void scriptTicks() {
        Edge.sentence("28: 5 0 0 0 n n: ticks(nn).");
        succeed("500001 500002 500098 500099");
        fail("500000 510001 590001 501001 500101 599999");
        // Two of the three segments go as reader 0 leaves, at the first of the ticks: row 6 is the first one then.
        Edge.asked(Edge::busy, NONE, x -> x.runScript(3, 400000500001800006L));
        Edge.asked(Edge::busy, 2, x -> x.runScript(3, 400000500099800007L));
    }

    private static void scriptPlace() {
        Edge.sentence("28: 6 n 0 p p p: succeeds if the place of the reader n is at least ppp.");
        succeed("600000 600001 600002 610000");
        fail("600003 600999 610001 620000 630000 670000 680000 690000 601000 601002 611000 609000");
        TrimmedLog x = Edge.rows(200, 1);
        x.join(7, 1, false);
        Edge.is(x.runScript(1, 670200), NONE);
        Edge.is(x.runScript(1, 670201), 0);
    }

    private static void scriptTruth() {
        Edge.sentence("28: 7 k 0 0 v v: succeeds if truth() of the key k at the end is vv.");
        succeed("710015 720026 730034 740044");
        fail("710014 710016 710013 710011 700000 750000 770000 780000 790000 711015 710115 719915 700099");
        TrimmedLog x = Edge.log("Gw00001w79901");
        Edge.is(x.runScript(1, 700000), NONE);
        Edge.is(x.runScript(1, 700001), 0);
        Edge.is(x.runScript(1, 770099), NONE);
        Edge.is(x.runScript(1, 710000), 0);
    }

    private static void scriptFirst() {
        Edge.sentence("28: 8 0 0 n n n: succeeds if the first row of the log is at least nnn.");
        succeed("800000 800001 800002");
        fail("800003 800999 810000 890002 801000 801002 809000");
        Edge.asked(TrimmedLog::new, NONE, x -> x.runScript(1, 800000));
        Edge.asked(TrimmedLog::new, 0, x -> x.runScript(1, 800001));
        TrimmedLog x = new TrimmedLog();
        x.set(0, 1);
        x.set(3, 0);
        for (int i = 0; i < 200; i++) {
            x.write(0, 0, 1);
        }
        x.ticks(1);
        Edge.is(x.runScript(1, 800199), NONE);
        Edge.is(x.runScript(1, 800200), 0);
    }

    private static void scriptHold() {
        Edge.sentence("28: 9 n 0 0 0 b: succeeds if the reader n has a hold and b is 1, or has none and b is 0.");
        succeed("900001 910000");
        fail("900000 910001 920000 920001 930000 970001 980000 980001 990000 900002 900009 910002 910010 900011 900101 901001 "
                + "911000");
    }

    private static void scriptOthers() {
        Edge.sentence("28: and so does any other group (also one with another digit where a 0 is written, or a b above 1)");
        fail("0 1 9 10 99 100 1000 10000 50001 99999 12345");
        Edge.asked(Edge::busy, 1, x -> x.runScript(2, 500001L * 1000000 + 50001));
    }

    // ---- 29

    private static final long FACTOR = 6364136223846793005L;
    private static final long PLUS = 1442695040888963407L;

    /** The inverse of the factor: each step makes twice as many bits right. */
    private static long inverse() {
        long inverse = FACTOR;
        for (int i = 0; i < 6; i++) {
            inverse *= 2 - FACTOR * inverse;
        }
        return inverse;
    }

    /** A seed whose first turn has this r. */
    private static long seed(int r, long low) {
        return (((long) r << 33 | low) - PLUS) * inverse();
    }

    private static int second(int r, long low) {
        return (int) (((long) r << 33 | low) * FACTOR + PLUS >>> 33);
    }

    /** A seed whose first turn has this r, and whose second one is one tick. */
    private static long seedThenTick(int r) {
        for (long low = 0; low < 1000000; low++) {
            int next = second(r, low);
            if (next % 16 >= 12 && next / 16 % 8 == 0) {
                return seed(r, low);
            }
        }
        throw new IllegalStateException("no such seed");
    }

    private static int r(int kind, int q) {
        return 16 * q + kind;
    }

    private static void simulateArguments() {
        Edge.sentence("29: Throws IllegalArgumentException if m is out of range");
        int[] outside = {0, -1, 61, FAR, FAR_BELOW};
        long[] seeds = {0, 1, -1, Long.MAX_VALUE, Long.MIN_VALUE};
        for (long seed : seeds) {
            for (int m : outside) {
                Edge.refused(Edge::busy, RANGE, x -> x.simulate(seed, m));
            }
            Edge.sentence("29: seed: any long; m: number of turns, 1 to 60; on a copy of the state");
            for (int m = 1; m <= 60; m += 59) {
                int turns = m;
                int want = Edge.busy().simulate(seed, turns);
                Edge.asked(Edge::busy, want, x -> x.simulate(seed, turns));
            }
            Edge.sentence("29: Throws IllegalArgumentException if m is out of range");
        }
        Edge.is(second(0, 0), (int) (PLUS >>> 33));
        Edge.is((int) (seed(123456789, 5) * FACTOR + PLUS >>> 33), 123456789);
    }

    /** Reader 0 has a gap of this many rows. */
    private static TrimmedLog withGap(int gap) {
        TrimmedLog x = new TrimmedLog();
        x.set(0, 1);
        x.set(3, 0);
        x.join(0, 0, false);
        for (int i = 0; i <= gap; i++) {
            x.write(0, 0, 1);
        }
        x.ticks(1);
        Edge.is(x.readerOf(0, 7), gap);
        return x;
    }

    private static void simulateMissed() {
        Edge.sentence("29: 100 * (the rows missed in the turns, or 99 if there are more)");
        int[] gaps = {1, 2, 97, 98, 99, 100, 101, 199};
        for (int gap : gaps) {
            for (int kind = 8; kind <= 9; kind++) {
                long seed = seed(r(kind, 0), 0);
                Edge.asked(() -> withGap(gap), 100 * Math.min(gap, 99) + 1, x -> x.simulate(seed, 1));
            }
        }
        // Another name is not there; of the other kinds none reads.
        Edge.is(withGap(5).simulate(seed(r(8, 1), 0), 1), 1);
        Edge.is(withGap(5).simulate(seed(r(7, 0), 0), 1), 1);
        Edge.is(withGap(5).simulate(seed(r(10, 8), 0), 1), 1);
    }

    private static void simulateReads() {
        Edge.sentence("29: 8 and 9: read(q % 8, 1 + q / 8 % 12).");
        for (int q = 0; q < 8 * 12 * 3; q++) {
            TrimmedLog x = new TrimmedLog();
            x.set(0, 1);
            x.set(3, 0);
            for (int name = 0; name <= 7; name++) {
                x.join(name, 0, false);
            }
            x.hold(q % 8, true);
            for (int i = 0; i < 20; i++) {
                x.write(0, 0, 1);
            }
            // As many rows as it reads, so many segments it lets go.
            for (int kind = 8; kind <= 9; kind++) {
                Edge.is(x.simulate(seedThenTick(r(kind, q)), 2), 10000 * (1 + q / 8 % 12) + 8);
                Edge.is(x.simulate(seedThenTick(r(kind, (q + 1) % 8 + 8)), 2), 8);
            }
        }
    }

    /** Twenty segments of one row, of which one goes with each tick. */
    private static TrimmedLog oneATick() {
        TrimmedLog x = new TrimmedLog();
        x.set(0, 1);
        for (int i = 0; i < 20; i++) {
            x.write(0, 0, 1);
            x.ticks(1);
        }
        x.set(2, 20);
        return x;
    }

    private static void simulateTicks() {
        Edge.sentence("29: Otherwise: ticks(1 + q % 8). .. 10000 * (the segments dropped in the turns)");
        TrimmedLog x = oneATick();
        for (int kind = 0; kind <= 15; kind++) {
            for (int q = 0; q <= 17; q++) {
                // One is due at once, one more with each tick.
                int ticks = 1 + q % 8;
                int want = kind >= 12 ? 10000 * (ticks + 1) : kind == 6 || kind == 7 ? joins(q) : 0;
                Edge.is(x.simulate(seed(r(kind, q), 0), 1), want);
            }
        }
        Edge.is(x.simulate(seed(FAR, 0), 1), 90000);
        Edge.is(x.simulate(seed(FAR, (1L << 33) - 1), 1), 90000);
        Edge.is(x.about(8), 0);
    }

    /** How many readers there are behind a turn of a join, if there was none, and none has left. */
    private static int joins(int q) {
        return q / 8 % 3 == 2 ? 0 : 1;
    }

    private static void simulateJoins() {
        Edge.sentence("29: 6 and 7: join(q % 8, q / 8 % 3, q / 32 % 2 is 1).");
        for (int kind = 6; kind <= 7; kind++) {
            for (int q = 0; q < 192; q++) {
                // Names 0 and 1 are there; 2 has left with a gap, and may come again without a hold; none else may.
                int name = q % 8;
                int how = q / 8 % 3;
                boolean held = q / 32 % 2 == 1;
                boolean comes = name > 1 && (how < 2 || name == 2 && !held);
                Edge.is(Edge.busy().simulate(seed(r(kind, q), 0), 1), comes ? 3 : 2);
            }
        }
        // With a hold at the first row both closed segments stay; at the end, or without a hold, they go.
        int[][] turns = {{48, 1}, {0, 20001}, {32, 20001}, {40, 20000}, {64, 20000}};
        for (int[] turn : turns) {
            TrimmedLog x = withRoom("Gs00001w00010w00010w00010", 0);
            Edge.is(x.simulate(seedThenTick(r(6, turn[0])), 2), turn[1]);
            Edge.is(x.simulate(seedThenTick(r(7, turn[0])), 2), turn[1]);
        }
    }

    private static void simulateLeaves() {
        Edge.sentence("29: 10: leave(q % 8), if q / 8 % 4 is 0, otherwise hold(q % 8, q / 32 % 2 is 1).");
        int[][] pairs = {{0, 1}, {1, 0}, {3, 4}, {7, 6}};
        for (int[] pair : pairs) {
            // The first one has a hold at row 1, the second one none; row 2 is in the open segment.
            TrimmedLog x = new TrimmedLog();
            x.set(0, 1);
            x.set(3, 0);
            x.join(pair[0], 0, true);
            x.write(0, 0, 1);
            x.join(pair[1], 0, false);
            x.write(0, 0, 1);
            x.write(0, 0, 1);
            x.read(pair[0], 1);
            for (int q = 0; q < 512; q++) {
                int name = q % 8;
                boolean leaves = q / 8 % 4 == 0;
                boolean held = q / 32 % 2 == 1;
                boolean firstHolds = name != pair[0] || !leaves && held;
                boolean secondHolds = name == pair[1] && !leaves && held;
                int dropped = secondHolds ? 0 : firstHolds ? 1 : 2;
                int there = leaves && (name == pair[0] || name == pair[1]) ? 1 : 2;
                Edge.is(x.simulate(seedThenTick(r(10, q)), 2), 10000 * dropped + there);
            }
        }
    }

    private static void simulateWrites() {
        Edge.sentence("29: 0 to 5: write(q % 8, q / 8 % 100, 1 + q / 1024 % 40).");
        for (int kind = 0; kind <= 5; kind++) {
            for (int length = 1; length <= 41; length++) {
                int q = 1024 * (length - 1);
                int written = length == 41 ? 1 : length;
                // A log of 20, in which 40 are not yet too much: the row of 21 is.
                TrimmedLog x = withRoom("Gs00001w00010w00010", 40);
                Edge.is(x.simulate(seedThenTick(r(kind, q)), 2), 10000 * (written <= 20 ? 0 : written <= 30 ? 1 : 2));
            }
        }
        // Key and value are always in their ranges: no row is left out, however great q is.
        TrimmedLog long20 = withRoom("Gs00001w00010w00010", 40);
        for (int q = 0; q < 1 << 27; q += 65521) {
            int written = 1 + q / 1024 % 40;
            Edge.is(long20.simulate(seedThenTick(r(q % 6, q)), 2), 10000 * (written <= 20 ? 0 : written <= 30 ? 1 : 2));
        }
        // A write closes: the log that was one open segment loses it.
        Edge.is(withRoom("Gs00001w00010", 0).simulate(seedThenTick(r(5, 0)), 2), 10000);
        Edge.is(withRoom("Gs00001w00010", 0).simulate(seedThenTick(r(8, 0)), 2), 0);
    }

    private static void simulateSets() {
        Edge.sentence("29: 11: set(3, q % 600), if q / 1024 % 2 is 0, otherwise set(2, q % 20).");
        // 20 long, and with one tick more the first row is 10 old.
        TrimmedLog x = Edge.log("Gs00001w00010w00010t09");
        for (int q = 0; q < 6000; q++) {
            boolean byLength = q / 1024 % 2 == 0 && q % 600 < 20;
            boolean byAge = q / 1024 % 2 == 1 && q % 20 >= 1 && q % 20 <= 10;
            Edge.is(x.simulate(seedThenTick(r(11, q)), 2), byLength || byAge ? 10000 : 0);
        }
    }

    private static void simulateLeftOut() {
        Edge.sentence("29: What would throw an exception is left out.");
        Edge.is(new TrimmedLog().simulate(seed(r(8, 0), 0), 1), 0);
        Edge.is(new TrimmedLog().simulate(seed(r(10, 0), 0), 1), 0);
        Edge.is(new TrimmedLog().simulate(seed(r(10, 40), 0), 1), 0);
        Edge.is(new TrimmedLog().simulate(seed(r(6, 16), 0), 1), 0);
        // A turn that is left out is a turn.
        TrimmedLog x = withRoom("Gs00001w00010w00010", 0);
        Edge.is(x.simulate(seedThenTick(r(8, 0)), 1), 0);
        Edge.is(x.simulate(seedThenTick(r(8, 0)), 2), 10000);
        // The row that would be the 201st is not written: nothing is longer then.
        for (int rows = 199; rows <= 200; rows++) {
            TrimmedLog y = Edge.rows(rows, 1);
            y.set(3, rows);
            Edge.is(y.simulate(seedThenTick(r(0, 0)), 2), rows == 199 ? 10000 : 0);
        }
    }

    private static void simulateOnlyTurns() {
        Edge.sentence("29: dropped in the turns .. missed in the turns .. the readers at the end");
        // Busy has dropped one already; and one has missed rows, and one left, before.
        TrimmedLog x = Edge.busy();
        x.read(1, 1);
        Edge.is(x.about(8), 1);
        Edge.is(x.about(11), 2);
        Edge.is(x.simulate(seed(r(12, 0), 0), 1), 2);
        Edge.is(x.simulate(seed(r(9, 1), 0), 1), 2);
        x.leave(0);
        Edge.is(x.simulate(seed(r(12, 0), 0), 1), 20001);
    }

    // ---- 30 and 31

    private static void save() {
        Edge.sentence("30: Throws IndexOutOfBoundsException if there is no such save slot");
        int[] outside = {-1, 2, FAR, FAR_BELOW};
        for (int slot : outside) {
            Edge.refused(Edge::busy, INDEX, x -> x.save(slot));
            Edge.refused(TrimmedLog::new, INDEX, x -> x.save(slot));
        }
        Edge.sentence("30: slot: 0 or 1; Returns the time.");
        for (int slot = 0; slot <= 1; slot++) {
            TrimmedLog x = new TrimmedLog();
            Edge.is(x.save(slot), 0);
            x.ticks(1);
            Edge.is(x.save(slot), 1);
            x.ticks(99);
            Edge.is(x.save(slot), 100);
            int other = 1 - slot;
            Edge.no(x, STATE, () -> x.restore(other));
            Edge.is(x.restore(slot), 100);
        }
    }

    private static void saveKeeps() {
        Edge.sentence("30: Stores the present state in a save slot.");
        // Neither the state, nor what is remembered, nor the text, nor the other slot is another one then.
        TrimmedLog x = Edge.busy();
        String before = Check.picture(x);
        Edge.is(x.save(1), 1);
        Edge.same(Check.picture(x), before);
        Edge.is(x.undo(), 4);
        Edge.is(x.about(0), 6);
        x.ticks(9);
        Edge.is(x.restore(1), 1);
        Edge.same(Check.picture(x), before);
        Edge.is(x.restore(0), 1);
        Edge.is(x.about(0), 6);
        Edge.is(x.clearText(), 10);
    }

    private static void restore() {
        Edge.sentence("31: Throws IndexOutOfBoundsException if there is no such save slot");
        int[] outside = {-1, 2, FAR, FAR_BELOW};
        for (int slot : outside) {
            Edge.refused(Edge::busy, INDEX, x -> x.restore(slot));
            Edge.refused(TrimmedLog::new, INDEX, x -> x.restore(slot));
        }
        Edge.sentence("31: Throws IllegalStateException if nothing has been saved in it");
        Edge.refused(Edge::busy, STATE, x -> x.restore(1));
        Edge.refused(TrimmedLog::new, STATE, x -> x.restore(0));
        Edge.refused(TrimmedLog::new, STATE, x -> x.restore(1));
        Edge.sentence("31: Returns the time then.");
        TrimmedLog y = new TrimmedLog();
        y.save(1);
        y.ticks(50);
        y.save(0);
        y.ticks(1);
        Edge.is(y.restore(1), 0);
        Edge.is(y.about(7), 0);
        Edge.is(y.restore(0), 50);
        Edge.is(y.about(7), 50);
    }

    private static void restoreForgets() {
        Edge.sentence("31: Replaces the state by the one in a save slot, and forgets all remembered states. "
                + "The save slot keeps it.");
        TrimmedLog x = Edge.busy();
        x.save(1);
        String saved = Check.picture(x);
        for (int i = 0; i < 3; i++) {
            x.write(0, 0, 1);
            x.leave(0);
            x.ticks(9);
            Edge.is(x.restore(1), 1);
            Edge.same(Check.picture(x), saved);
            Edge.no(x, STATE, x::undo);
        }
        // From then on states are remembered as ever, 14 at most.
        for (int actions = 1; actions <= 15; actions++) {
            for (int i = 0; i < actions; i++) {
                x.ticks(1);
            }
            int left = Math.min(actions, 14);
            for (int i = left - 1; i >= 0; i--) {
                Edge.is(x.undo(), i);
                Edge.is(x.about(7), 1 + actions - left + i);
            }
            Edge.no(x, STATE, x::undo);
            Edge.is(x.restore(1), 1);
        }
        // What is restored has the numbers of holds lost, rows missed and segments dropped, too.
        for (int i = 0; i <= 1; i++) {
            int slot = i;
            Edge.alike(() -> {
                TrimmedLog y = Edge.losing();
                y.restore(slot);
                return y;
            }, () -> {
                TrimmedLog y = Edge.losing();
                y.ticks(1);
                y.read(0, 1);
                y.restore(slot);
                return y;
            });
        }
        // The places of those who left are a part of it.
        Edge.is(x.join(2, 2, false), 1);
        x.read(2, 1);
        x.leave(2);
        x.restore(1);
        Edge.is(x.join(2, 2, false), 1);
        Edge.is(x.undo(), 0);
        // Nothing else: the other slot, and the text.
        Edge.is(x.restore(0), 1);
        Edge.is(x.about(0), 6);
        Edge.is(x.clearText(), 10);
    }

    private static void restoreSinceLoad() {
        Edge.sentence("31: since the last load");
        for (int slot = 0; slot <= 1; slot++) {
            int s = slot;
            Supplier<TrimmedLog> loaded = () -> {
                TrimmedLog x = Edge.busy();
                x.save(s);
                x.load();
                return x;
            };
            Edge.refused(loaded, STATE, x -> x.restore(s));
            TrimmedLog y = loaded.get();
            Edge.is(y.save(s), 5);
            Edge.is(y.restore(s), 5);
            // A load that throws is none.
            TrimmedLog z = Edge.busyWithFault();
            z.save(s);
            Edge.no(z, STATE, z::load);
            Edge.is(z.restore(s), 1);
        }
    }

    private static void questionsChangeNothing() {
        Edge.sentence("these and all following methods up to the save slots change nothing");
        Edge.asked(Edge::busy, 3, TrimmedLog::why);
        Edge.asked(Edge::busy, 0, TrimmedLog::slowest);
        Edge.asked(Edge::busy, NONE, TrimmedLog::droppedIn);
        Edge.asked(Edge::busy, NONE, x -> x.lostIn(0));
        Edge.asked(Edge::busy, 2, x -> x.ifFree(0));
        Edge.asked(Edge::busy, 0, x -> x.leastRoom(200));
        Edge.asked(Edge::busy, NONE, x -> x.runScript(3, 400000302000410000L));
        Edge.asked(Edge::busy, 20001, x -> x.simulate(seedThenTick(r(10, 0)), 2));
        Edge.asked(Edge::losing, 3, TrimmedLog::why);
        Edge.asked(Edge::losing, 5, TrimmedLog::slowest);
        Edge.asked(Edge::losing, 1, TrimmedLog::droppedIn);
        Edge.asked(Edge::losing, 1, x -> x.lostIn(5));
        Edge.asked(Edge::losing, 1, x -> x.lostIn(6));
        Edge.asked(Edge::losing, 1, x -> x.ifFree(6));
        Edge.asked(Edge::losing, 20, x -> x.leastRoom(1));
        Edge.asked(Edge::losing, NONE, x -> x.runScript(3, 500001200001250001L));
        Edge.asked(Edge::losing, 10004, x -> x.simulate(seed(r(12, 0), 0), 1));
        // Nor do they, one behind the other, tell anything of one another.
        TrimmedLog y = Edge.busy();
        for (int i = 0; i < 3; i++) {
            Edge.is(y.simulate(seedThenTick(r(10, 0)), 2), 20001);
            Edge.is(y.ifFree(0), 2);
            Edge.is(y.leastRoom(200), 0);
            Edge.is(y.droppedIn(), NONE);
            Edge.is(y.why(), 3);
        }
    }
}
