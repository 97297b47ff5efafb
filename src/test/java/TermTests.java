import java.util.HashSet;
import java.util.List;
import java.util.Set;
import java.util.function.Supplier;
import java.util.function.ToIntFunction;

/** Each sentence under "Terms" of the document that names a boundary: the case itself, and the last on its other side. */
public final class TermTests {
    private static final int NONE = Edge.NONE;

    private TermTests() {
    }

    public static void main(String[] args) {
        Edge.runAll(TermTests.class,
                TermTests::lastCall, TermTests::twoWays,
                TermTests::rowNumber, TermTests::rowParts, TermTests::rowTime, TermTests::twoHundredRows,
                TermTests::openAndClosed, TermTests::fullOfRows, TermTests::fullOfMoreRows, TermTests::tooLong,
                TermTests::longerAlready, TermTests::newSegment, TermTests::firstSegment, TermTests::firstRow,
                TermTests::withoutSegments, TermTests::end, TermTests::baseAtFirst, TermTests::baseInOrder,
                TermTests::eightNames, TermTests::oneOfAName, TermTests::place, TermTests::tableOrNone,
                TermTests::readLast, TermTests::readsARow, TermTests::gap, TermTests::toldOfGap, TermTests::toldOnce,
                TermTests::noHoldWithGap,
                TermTests::timeFirst, TermTests::heldLength, TermTests::heldFromPlace, TermTests::anyLength,
                TermTests::asleep, TermTests::anySleep, TermTests::byNames, TermTests::reasonOneFirst,
                TermTests::holdsBeforeDrops, TermTests::closedFirst, TermTests::asLongAs, TermTests::dueByLength,
                TermTests::dueByAge, TermTests::neverByAge, TermTests::heldSegment, TermTests::heldByHolders,
                TermTests::settingsAtFirst, TermTests::settingRanges, TermTests::textRoom, TermTests::emptyLog,
                TermTests::leastAndGreatest, TermTests::grammar, TermTests::leftOut, TermTests::noBlanks,
                TermTests::leftToRight, TermTests::firstNotAllowed, TermTests::digitsThatMayBegin,
                TermTests::endsTooSoon, TermTests::everythingButText, TermTests::actionsWithoutChange,
                TermTests::throwingIsNoAction, TermTests::stateBefore, TermTests::fourteenStates,
                TermTests::noActions, TermTests::constant);
    }

    // ---- what it is

    private static void lastCall() {
        Edge.sentence("An object is used for at most 512 calls after it has been made");
        TrimmedLog x = new TrimmedLog();
        for (int call = 1; call <= 511; call++) {
            x.ticks(99);
        }
        Edge.is(x.ticks(99), 0);
        Edge.is(x.about(7), 512 * 99);
        TrimmedLog y = Edge.log("Gs00001w00001w00001s20099");
        for (int call = 30; call <= 511; call++) {
            y.simulate(call, 60);
        }
        Edge.is(y.droppedIn(), 99);
    }

    private static void twoWays() {
        Edge.sentence("what the log tells of a key, in two ways that must agree");
        String[] texts = {"G", "Gw00001", "Gs00001s30000w11101w22201w11201w33301t01w22401w00501",
            "Gs00002s30010w71110w71210w72310w73410w71510t01w00001w72201t01"};
        for (String text : texts) {
            TrimmedLog x = Edge.log(text);
            for (int row = x.about(1); row <= x.about(0); row++) {
                for (int key = 0; key <= 7; key++) {
                    Edge.is(x.truth(key, row, 0), x.truth(key, row, 1));
                }
            }
        }
    }

    // ---- rows, segments

    private static void rowNumber() {
        Edge.sentence("A row has a number (from 0 on, as it is written)");
        TrimmedLog x = new TrimmedLog();
        Edge.is(x.write(5, 50, 5), 0);
        Edge.is(x.write(5, 50, 5), 1);
        Edge.is(x.write(5, 50, 5), 2);
        TrimmedLog y = Edge.log("Gs00001s30000w00001w00001t01");
        Edge.is(y.about(1), 1);
        Edge.is(y.write(0, 0, 1), 2);
    }

    private static void rowParts() {
        Edge.sentence("a key, 0 to 7, a value, 0 to 99, a length, 1 to 40");
        TrimmedLog x = new TrimmedLog();
        x.write(0, 0, 1);
        x.write(7, 99, 40);
        x.write(1, 1, 2);
        x.write(6, 98, 39);
        Edge.are(what -> x.rowOf(0, what), 0, 0, 1, 0, 0, 0);
        Edge.are(what -> x.rowOf(1, what), 7, 99, 40, 0, 0, 0);
        Edge.are(what -> x.rowOf(2, what), 1, 1, 2, 0, 0, 0);
        Edge.are(what -> x.rowOf(3, what), 6, 98, 39, 0, 0, 0);
    }

    private static void rowTime() {
        Edge.sentence("and the time when it was written");
        TrimmedLog x = new TrimmedLog();
        x.write(0, 0, 1);
        x.ticks(1);
        x.write(0, 0, 1);
        x.write(0, 0, 1);
        x.ticks(99);
        x.write(0, 0, 1);
        Edge.is(x.rowOf(0, 3), 0);
        Edge.is(x.rowOf(1, 3), 1);
        Edge.is(x.rowOf(2, 3), 1);
        Edge.is(x.rowOf(3, 3), 100);
    }

    private static TrimmedLog fullAndTrimmed() {
        TrimmedLog x = new TrimmedLog();
        x.set(0, 1);
        x.set(3, 0);
        for (int i = 0; i < 200; i++) {
            x.write(0, 0, 1);
        }
        x.ticks(1);
        return x;
    }

    private static void twoHundredRows() {
        Edge.sentence("At most 200 rows are ever written.");
        TrimmedLog x = Edge.rows(198, 1);
        Edge.is(x.write(0, 0, 1), 198);
        Edge.is(x.write(0, 0, 1), 199);
        Edge.refused(() -> Edge.rows(200, 40), Edge.STATE, y -> y.write(0, 0, 1));
        // The last one is a row like any other.
        x.undo();
        Edge.is(x.write(7, 98, 40), 199);
        Edge.are(what -> x.rowOf(199, what), 7, 98, 40, 0, 196, 0);
        Edge.is(x.segmentOf(49, 2), 43);
        Edge.is(x.about(3), 239);
        x.join(0, 0, true);
        Edge.is(x.readerOf(0, 6), 239);
        // Those that were dropped were written too.
        TrimmedLog t = fullAndTrimmed();
        Edge.is(t.about(1), 199);
        Edge.is(t.about(2), 1);
        Edge.refused(TermTests::fullAndTrimmed, Edge.STATE, y -> y.write(0, 0, 1));
        // Those that were taken back were not.
        t.undo();
        t.undo();
        Edge.is(t.about(0), 199);
        Edge.is(t.write(7, 99, 40), 199);
        Edge.is(t.rowOf(199, 1), 99);
    }

    private static void openAndClosed() {
        Edge.sentence("the last one is open, all others are closed");
        TrimmedLog x = new TrimmedLog();
        x.set(0, 1);
        x.write(0, 0, 1);
        Edge.is(x.segmentOf(0, 3), 0);
        x.write(0, 0, 1);
        Edge.is(x.segmentOf(0, 3), 1);
        Edge.is(x.segmentOf(1, 3), 0);
        x.write(0, 0, 1);
        Edge.is(x.segmentOf(0, 3), 1);
        Edge.is(x.segmentOf(1, 3), 1);
        Edge.is(x.segmentOf(2, 3), 0);
        x.set(3, 0);
        x.ticks(1);
        Edge.is(x.segmentOf(0, 3), 0);
    }

    private static void fullOfRows() {
        Edge.sentence("but if that has as many rows as setting 0");
        for (int most = 1; most <= 8; most++) {
            TrimmedLog x = new TrimmedLog();
            x.set(0, most);
            for (int i = 1; i <= most; i++) {
                x.write(0, 0, 1);
                Edge.is(x.about(2), 1);
                Edge.is(x.segmentOf(0, 1), i);
            }
            x.write(0, 0, 1);
            Edge.is(x.about(2), 2);
            Edge.is(x.segmentOf(0, 1), most);
            Edge.is(x.segmentOf(1, 1), 1);
        }
    }

    private static void fullOfMoreRows() {
        Edge.sentence("as many rows as setting 0 or more");
        for (int fewer = 1; fewer <= 8; fewer++) {
            TrimmedLog x = new TrimmedLog();
            x.set(0, 8);
            for (int i = 0; i < 7; i++) {
                x.write(0, 0, 1);
            }
            // Seven rows; a lower setting closes nothing by itself.
            x.set(0, fewer);
            Edge.is(x.about(2), 1);
            Edge.is(x.segmentOf(0, 3), 0);
            x.write(0, 0, 1);
            Edge.is(x.about(2), fewer <= 7 ? 2 : 1);
        }
        // A higher one lets the open segment go on, but not a closed one.
        TrimmedLog y = Edge.rows(4, 1);
        y.set(0, 5);
        y.write(0, 0, 1);
        Edge.is(y.about(2), 1);
        y.write(0, 0, 1);
        y.set(0, 8);
        y.write(0, 0, 1);
        Edge.is(y.segmentOf(0, 1), 5);
        Edge.is(y.segmentOf(1, 1), 2);
    }

    private static void tooLong() {
        Edge.sentence("or its rows and the new one would be longer than setting 1, together");
        int[] mosts = {40, 41, 99, 100, 101, 199, 200};
        for (int most : mosts) {
            for (int over = -1; over <= 1; over++) {
                TrimmedLog x = new TrimmedLog();
                x.set(0, 8);
                x.set(1, most);
                int sum = 0;
                while (sum + 38 < most - 1) {
                    x.write(0, 0, 38);
                    sum += 38;
                }
                Edge.is(x.about(2), 1);
                x.write(0, 0, most + over - sum);
                Edge.is(x.about(2), over == 1 ? 2 : 1);
                Edge.is(x.segmentOf(0, 2), over == 1 ? sum : most + over);
            }
        }
    }

    private static void longerAlready() {
        Edge.sentence("its rows and the new one would be longer than setting 1, together, it is closed");
        int[] lengths = {38, 39, 40, 80};
        for (int length : lengths) {
            TrimmedLog x = new TrimmedLog();
            x.write(0, 0, length / 2);
            x.write(0, 0, length - length / 2);
            x.set(1, 40);
            Edge.is(x.about(2), 1);
            x.write(0, 0, 1);
            Edge.is(x.about(2), length + 1 > 40 ? 2 : 1);
        }
    }

    private static void newSegment() {
        Edge.sentence("it is closed, and the row begins a new open segment");
        TrimmedLog x = Edge.rows(4, 10);
        Edge.are(what -> x.segmentOf(0, what), 0, 4, 40, 0, 0, 0);
        x.write(7, 7, 7);
        Edge.are(what -> x.segmentOf(0, what), 0, 4, 40, 1, 0, 0);
        Edge.are(what -> x.segmentOf(1, what), 4, 1, 7, 0, 0, 0);
        Edge.is(x.rowOf(3, 4), 0);
        Edge.is(x.rowOf(4, 4), 4);
    }

    private static void firstSegment() {
        Edge.sentence("(At first there is no segment; the first row begins one.)");
        TrimmedLog x = new TrimmedLog();
        Edge.is(x.about(2), 0);
        Edge.refused(TrimmedLog::new, Edge.INDEX, y -> y.segmentOf(0, 0));
        // The longest row where there is the least room: one segment, not two.
        x.set(0, 1);
        x.set(1, 40);
        x.write(0, 0, 40);
        Edge.is(x.about(2), 1);
        Edge.are(what -> x.segmentOf(0, what), 0, 1, 40, 0, 0, 0);
        Edge.is(x.why(), 1);
    }

    private static void firstRow() {
        Edge.sentence("The first row of the log is the first one of its first segment");
        TrimmedLog x = Edge.log("Gs00002s30000w00001w00001w00001w00001w00001j00+r002");
        Edge.is(x.about(1), 0);
        Edge.is(x.segmentOf(0, 0), 0);
        x.ticks(1);
        Edge.is(x.about(1), 2);
        Edge.is(x.segmentOf(0, 0), 2);
        x.leave(0);
        x.ticks(1);
        // Only the open segment is left.
        Edge.is(x.about(1), 4);
        Edge.is(x.segmentOf(0, 0), 4);
    }

    private static void withoutSegments() {
        Edge.sentence("or, without segments, the one that is written next");
        TrimmedLog x = new TrimmedLog();
        Edge.is(x.about(1), 0);
        Edge.is(x.about(0), 0);
        x.ticks(99);
        Edge.is(x.about(1), 0);
        Edge.is(x.join(0, 0, true), 0);
        Edge.is(x.join(1, 1, true), 0);
        Edge.is(x.about(6), 0);
        Edge.is(x.truth(0, 0, 0), NONE);
        Edge.is(x.write(0, 0, 1), 0);
        Edge.is(x.about(1), 0);
    }

    private static void end() {
        Edge.sentence("The end is the number of the row that is written next.");
        TrimmedLog x = new TrimmedLog();
        Edge.is(x.about(0), 0);
        for (int i = 0; i < 200; i++) {
            Edge.is(x.about(0), i);
            Edge.is(x.write(0, 0, 1), i);
        }
        Edge.is(x.about(0), 200);
    }

    private static void baseAtFirst() {
        Edge.sentence("The base has a value of each key, at first none.");
        TrimmedLog x = new TrimmedLog();
        Edge.are(x::base, NONE, NONE, NONE, NONE, NONE, NONE, NONE, NONE);
        // Rows that are still in the log are not in it.
        TrimmedLog y = Edge.rows(16, 1);
        Edge.are(y::base, NONE, NONE, NONE, NONE, NONE, NONE, NONE, NONE);
        y.set(3, 0);
        Edge.is(y.ticks(1), 3);
        Edge.are(y::base, 8, 9, 10, 11, 4, 5, 6, 7);
    }

    private static void baseInOrder() {
        Edge.sentence("its rows go into the base in their order: the value of each one becomes that of its key there");
        TrimmedLog x = Edge.log("Gs00003s30000w01101w01201w70001w79901w00001w11301w22401j00+r003t01");
        Edge.is(x.about(1), 3);
        Edge.are(x::base, 12, NONE, NONE, NONE, NONE, NONE, NONE, 0);
        x.read(0, 3);
        x.ticks(1);
        Edge.is(x.about(1), 6);
        // Key 0 went from 12 to 0, which is a value; the row of the open segment is not there.
        Edge.are(x::base, 0, 13, NONE, NONE, NONE, NONE, NONE, 99);
    }

    // ---- readers

    private static void eightNames() {
        Edge.sentence("There are 8 names, 0 to 7.");
        TrimmedLog x = new TrimmedLog();
        for (int name = 0; name <= 7; name++) {
            x.join(name, 0, true);
            Edge.is(x.about(4), name + 1);
        }
        Edge.no(x, Edge.RANGE, () -> x.join(8, 0, true));
        Edge.no(x, Edge.RANGE, () -> x.join(-1, 0, true));
    }

    private static void oneOfAName() {
        Edge.sentence("A reader has a name, which no other one has at that time");
        Edge.refused(() -> Edge.log("Gj00+"), Edge.STATE, x -> x.join(0, 0, true));
        TrimmedLog y = Edge.log("Gj00+l0");
        Edge.is(y.join(0, 0, true), 0);
        Edge.is(y.about(4), 1);
    }

    private static void place() {
        Edge.sentence("a place (the number of the row that it reads next)");
        TrimmedLog x = Edge.rows(3, 1);
        x.join(0, 1, false);
        Edge.is(x.readerOf(0, 0), 3);
        Edge.is(x.read(0, 50), 0);
        Edge.is(x.readerOf(0, 0), 3);
        x.write(3, 93, 1);
        Edge.is(x.read(0, 50), 1);
        Edge.is(x.table(0, 3), 93);
        Edge.is(x.readerOf(0, 0), 4);
    }

    private static void tableOrNone() {
        Edge.sentence("a table with a value of each key, or none");
        TrimmedLog x = Edge.log("Gj00+w00001w79901");
        Edge.are(key -> x.table(0, key), NONE, NONE, NONE, NONE, NONE, NONE, NONE, NONE);
        x.read(0, 1);
        Edge.are(key -> x.table(0, key), 0, NONE, NONE, NONE, NONE, NONE, NONE, NONE);
        x.read(0, 1);
        Edge.are(key -> x.table(0, key), 0, NONE, NONE, NONE, NONE, NONE, NONE, 99);
    }

    private static void readLast() {
        Edge.sentence("that of its latest read(), also of one by which it reads nothing, or is told of a gap");
        TrimmedLog x = Edge.log("Gs00001s30000w00001j00-j10-w00001t05");
        Edge.is(x.readerOf(0, 4), 0);
        Edge.is(x.read(0, 50), -1);
        Edge.is(x.readerOf(0, 4), 5);
        x.ticks(1);
        Edge.is(x.readerOf(0, 4), 5);
        Edge.is(x.read(0, 50), 1);
        Edge.is(x.readerOf(0, 4), 6);
        x.ticks(1);
        Edge.is(x.read(0, 50), 0);
        Edge.is(x.readerOf(0, 4), 7);
        // Not of hold(), and not of what another one reads.
        x.ticks(1);
        x.hold(0, true);
        x.read(1, 1);
        Edge.is(x.readerOf(0, 4), 7);
        // Nor of one that throws.
        Edge.no(x, Edge.RANGE, () -> x.read(0, 0));
        Edge.is(x.readerOf(0, 4), 7);
    }

    private static void readsARow() {
        Edge.sentence("the value of that becomes the one of its key in its table, and its place is the next row");
        TrimmedLog x = Edge.log("Gj50-w31101w31201w41301w31401");
        x.read(5, 1);
        Edge.is(x.table(5, 3), 11);
        Edge.is(x.readerOf(5, 0), 1);
        // In their order: of two rows of a key the later one stays.
        x.read(5, 2);
        Edge.is(x.table(5, 3), 12);
        Edge.is(x.table(5, 4), 13);
        Edge.is(x.readerOf(5, 0), 3);
        x.read(5, 50);
        Edge.is(x.table(5, 3), 14);
        Edge.is(x.readerOf(5, 0), 4);
    }

    private static void gap() {
        Edge.sentence("A reader whose place is below the first row of the log has a gap.");
        TrimmedLog x = Edge.log("Gs00002s30000w00001w00001w00001j00-j10-j20-r101r202t01");
        // The first row is 2; the places are 0, 1 and 2.
        Edge.is(x.about(1), 2);
        Edge.is(x.readerOf(0, 7), 2);
        Edge.is(x.readerOf(1, 7), 1);
        Edge.is(x.readerOf(2, 7), 0);
        Edge.is(x.about(6), 2);
        Edge.is(x.read(0, 1), -2);
        Edge.is(x.read(1, 1), -1);
        Edge.is(x.read(2, 1), 1);
        Edge.is(x.about(6), 0);
    }

    private static void toldOfGap() {
        Edge.sentence("all rows in the gap are missed, its place is the first row then, its table is the base, "
                + "and it reads nothing this time");
        TrimmedLog x = Edge.log("Gs00001s30000j40-w11101w22201r402w11301w33401w44501t03");
        Edge.is(x.about(1), 4);
        Edge.are(what -> x.readerOf(4, what), 2, 0, 2, 0, 0, 1, 1, 2, 0);
        // Until then it keeps its table and its place.
        Edge.are(key -> x.table(4, key), NONE, 11, 22, NONE, NONE, NONE, NONE, NONE);
        Edge.is(x.read(4, 1), -2);
        Edge.are(what -> x.readerOf(4, what), 4, 0, 2, 2, 3, 1, 1, 0, 0);
        Edge.are(key -> x.table(4, key), NONE, 13, 22, 34, NONE, NONE, NONE, NONE);
        Edge.is(x.about(11), 2);
        Edge.is(x.read(4, 1), 1);
        Edge.is(x.table(4, 4), 45);
        // The number of rows to read does not bound what is missed, nor the other way round.
        TrimmedLog y = Edge.rows(100, 1);
        y.join(0, 0, false);
        y.set(3, 0);
        y.ticks(1);
        Edge.is(y.about(1), 96);
        Edge.is(y.read(0, 1), -96);
        Edge.is(y.readerOf(0, 3), 96);
        Edge.is(y.readerOf(0, 2), 0);
    }

    private static void toldOnce() {
        Edge.sentence("It is told of it when it reads next");
        TrimmedLog x = Edge.log("Gs00001s30000j00-w00001w00001t01w00001t01");
        // The gap has grown from 1 to 2 before it was told.
        Edge.is(x.readerOf(0, 7), 2);
        Edge.is(x.about(11), 0);
        Edge.is(x.read(0, 50), -2);
        x.write(0, 0, 1);
        x.ticks(1);
        Edge.is(x.read(0, 50), -1);
        Edge.is(x.read(0, 50), 1);
        Edge.is(x.readerOf(0, 3), 3);
        Edge.is(x.about(11), 3);
    }

    private static void noHoldWithGap() {
        Edge.sentence("A reader with a gap has no hold.");
        TrimmedLog x = Edge.log("Gs00002s30000s50003j00+j10+w00001w00001w00001r101t02");
        Edge.is(x.about(6), 0);
        Edge.is(x.about(5), 2);
        // The hold goes, and with it, in the same tick, the segment.
        Edge.is(x.ticks(1), 1);
        Edge.is(x.about(5), 0);
        Edge.is(x.about(6), 2);
        Edge.is(x.readerOf(0, 1), 0);
        Edge.is(x.readerOf(1, 1), 0);
        Edge.no(x, Edge.STATE, () -> x.hold(0, true));
        x.read(0, 1);
        Edge.is(x.hold(0, true), 0);
        Edge.is(x.about(5), 1);
    }

    // ---- a tick

    private static void timeFirst() {
        Edge.sentence("The time (0 at first) becomes 1 more. Then:");
        TrimmedLog x = Edge.log("Gs00001s20001s50001w00001w00001j01+");
        Edge.is(x.about(7), 0);
        // One time later the row is 1 old, and the reader has slept 1.
        Edge.is(x.ticks(1), 1);
        Edge.is(x.about(7), 1);
        Edge.is(x.about(10), 1);
        Edge.is(x.ticks(99), 0);
        Edge.is(x.about(7), 100);
    }

    private static TrimmedLog heldLength(int length) {
        TrimmedLog x = new TrimmedLog();
        x.set(3, 4000);
        x.join(0, 0, true);
        for (int rest = length; rest > 0; rest -= 40) {
            x.write(0, 0, Math.min(rest, 40));
        }
        return x;
    }

    private static void heldLength() {
        Edge.sentence("if setting 4 is above 0, and all rows from its place on are longer than that, together, "
                + "the hold is lost, by reason 1");
        int[] mosts = {1, 2, 39, 40, 41, 399, 3999, 4000};
        for (int most : mosts) {
            for (int over = -1; over <= 1; over++) {
                TrimmedLog x = heldLength(most + over);
                x.set(4, most);
                x.ticks(1);
                int lost = over == 1 ? 1 : 0;
                Edge.is(x.readerOf(0, 1), 1 - lost);
                Edge.is(x.readerOf(0, 8), lost);
                Edge.is(x.about(9), lost);
                Edge.is(x.about(10), 0);
                // A hold is lost once.
                x.ticks(1);
                Edge.is(x.about(9), lost);
            }
        }
    }

    private static void heldFromPlace() {
        Edge.sentence("all rows from its place on");
        for (int place = 0; place <= 3; place++) {
            for (int most = 1; most <= 31; most++) {
                TrimmedLog x = Edge.log("Gj00+w00010w00010w00010");
                if (place > 0) {
                    x.read(0, place);
                }
                x.set(4, most);
                x.ticks(1);
                Edge.is(x.readerOf(0, 8), 10 * (3 - place) > most ? 1 : 0);
            }
        }
        // Rows that were dropped ahead of its place don't count: 20 are left, and 20 were there.
        TrimmedLog y = Edge.log("Gs00001s30020s40020w00010w00010j01+w00010w00010t01");
        Edge.is(y.about(1), 2);
        Edge.is(y.readerOf(0, 1), 1);
        y.write(0, 0, 1);
        y.ticks(1);
        Edge.is(y.readerOf(0, 8), 1);
    }

    private static void anyLength() {
        Edge.sentence("4: how much a reader may hold, 0 (any, at first)");
        TrimmedLog x = heldLength(4001);
        x.ticks(99);
        Edge.is(x.readerOf(0, 1), 1);
        Edge.is(x.about(9), 0);
        x.set(4, 1);
        x.set(4, 0);
        x.ticks(1);
        Edge.is(x.readerOf(0, 1), 1);
        x.set(4, 4000);
        x.ticks(1);
        Edge.is(x.readerOf(0, 1), 0);
    }

    private static void asleep() {
        Edge.sentence("otherwise, if setting 5 is above 0, and the time is at least as much above that when it read "
                + "last, the hold is lost, by reason 2");
        int[] sleeps = {1, 2, 3, 50, 98, 99};
        for (int sleep : sleeps) {
            TrimmedLog x = new TrimmedLog();
            x.ticks(7);
            x.join(0, 1, true);
            x.set(5, sleep);
            if (sleep > 1) {
                x.ticks(sleep - 1);
            }
            Edge.is(x.readerOf(0, 1), 1);
            Edge.is(x.about(10), 0);
            x.save(0);
            x.ticks(1);
            Edge.is(x.readerOf(0, 1), 0);
            Edge.is(x.readerOf(0, 8), 2);
            Edge.is(x.about(10), 1);
            Edge.is(x.about(9), 0);
            // A read, if only of nothing, counts from then on.
            x.restore(0);
            x.read(0, 1);
            x.ticks(1);
            Edge.is(x.readerOf(0, 8), sleep == 1 ? 2 : 0);
        }
        // More than as much: the setting was lowered below what it has slept.
        TrimmedLog z = Edge.log("Gj01+t50s50049t01");
        Edge.is(z.readerOf(0, 8), 2);
    }

    private static void anySleep() {
        Edge.sentence("5: how long a reader may sleep, 0 (any, at first)");
        TrimmedLog x = Edge.log("Gj01+t99t99t99");
        Edge.is(x.readerOf(0, 1), 1);
        x.set(5, 99);
        x.set(5, 0);
        x.ticks(99);
        Edge.is(x.readerOf(0, 1), 1);
        Edge.is(x.about(10), 0);
    }

    private static void byNames() {
        Edge.sentence("Each reader who has a hold, by names");
        TrimmedLog x = new TrimmedLog();
        for (int name = 0; name <= 7; name++) {
            x.join(name, 0, name != 3);
        }
        x.write(0, 0, 2);
        x.read(5, 1);
        x.set(4, 1);
        x.ticks(1);
        // All but 3, who has none, and 5, who has read.
        Edge.is(x.about(9), 6);
        Edge.is(x.readerOf(0, 8), 1);
        Edge.is(x.readerOf(7, 8), 1);
        Edge.is(x.readerOf(3, 8), 0);
        Edge.is(x.readerOf(5, 8), 0);
        x.set(5, 1);
        x.ticks(1);
        Edge.is(x.about(9), 6);
        Edge.is(x.about(10), 1);
        Edge.is(x.readerOf(3, 8), 0);
        Edge.is(x.readerOf(5, 8), 2);
    }

    private static void reasonOneFirst() {
        Edge.sentence("otherwise, if setting 5 is above 0");
        for (int length = 1; length <= 2; length++) {
            TrimmedLog x = new TrimmedLog();
            x.join(0, 0, true);
            x.write(0, 0, length);
            x.set(4, 1);
            x.set(5, 1);
            x.ticks(1);
            // Both are so where the length is 2: the first reason is told, and only it counts.
            Edge.is(x.readerOf(0, 8), length == 2 ? 1 : 2);
            Edge.is(x.about(9), length == 2 ? 1 : 0);
            Edge.is(x.about(10), length == 2 ? 0 : 1);
        }
    }

    private static void holdsBeforeDrops() {
        Edge.sentence("1. Each reader who has a hold .. 2. As long as the first segment is closed");
        TrimmedLog x = Edge.log("Gs00001s30000s50004j00+w00001w00001t03");
        Edge.is(x.about(8), 0);
        Edge.is(x.why(), 3);
        Edge.is(x.ticks(1), 1);
        Edge.is(x.readerOf(0, 7), 1);
        // A hold that reason 1 takes, likewise.
        TrimmedLog y = Edge.log("Gs00001s30000j00+w00001w00001t03s40002t01");
        Edge.is(y.about(8), 0);
        y.set(4, 1);
        Edge.is(y.ticks(1), 1);
    }

    private static void closedFirst() {
        Edge.sentence("As long as the first segment is closed, is due, and is not held, it is dropped.");
        TrimmedLog none = Edge.log("Gs20001s30000t09");
        Edge.is(none.about(8), 0);
        TrimmedLog open = Edge.log("Gs20001s30000w00040t09");
        Edge.is(open.segmentOf(0, 4), 1);
        Edge.is(open.segmentOf(0, 5), 0);
        Edge.is(open.about(8), 0);
        open.set(0, 1);
        Edge.is(open.ticks(1), 0);
        open.write(0, 0, 1);
        Edge.is(open.ticks(1), 1);
        Edge.is(open.ticks(99), 0);
        Edge.is(open.about(2), 1);
    }

    private static void asLongAs() {
        Edge.sentence("As long as the first segment is closed, is due");
        // Five segments of 10; the log is looked at anew behind each drop.
        int[] rooms = {50, 49, 40, 39, 30, 29, 20, 19, 10, 9, 0};
        int[] drops = {0, 1, 1, 2, 2, 3, 3, 4, 4, 4, 4};
        for (int i = 0; i < rooms.length; i++) {
            TrimmedLog x = Edge.log("Gs00001w00010w10110w20210w30310w40410");
            x.set(3, rooms[i]);
            Edge.is(x.ticks(1), drops[i]);
            Edge.is(x.about(1), drops[i]);
            Edge.is(x.about(3), 50 - 10 * drops[i]);
            Edge.is(x.ticks(1), 0);
        }
        // Up to the one that is held.
        for (int place = 0; place <= 5; place++) {
            TrimmedLog x = Edge.log("Gs00001s30000j00+w00010w10110w20210w30310w40410");
            if (place > 0) {
                x.read(0, place);
            }
            Edge.is(x.ticks(1), Math.min(place, 4));
        }
        // As many as there may be.
        TrimmedLog most = fullAndTrimmed();
        Edge.is(most.about(8), 199);
        most.undo();
        Edge.is(most.ticks(1), 199);
    }

    private static void dueByLength() {
        Edge.sentence("It is due if all rows of the log are longer than setting 3, together");
        int[] rooms = {1, 2, 40, 399, 400, 3999, 4000};
        for (int room : rooms) {
            for (int over = 0; over <= 1; over++) {
                TrimmedLog x = new TrimmedLog();
                x.set(0, 1);
                x.set(3, room);
                x.write(0, 0, 1);
                for (int rest = room - 1 + over; rest > 0; rest -= 40) {
                    x.write(0, 0, Math.min(rest, 40));
                }
                Edge.is(x.about(3), room + over);
                Edge.is(x.segmentOf(0, 4), over);
                Edge.is(x.ticks(1), over);
            }
        }
        // Setting 3 is 0: any row is longer.
        TrimmedLog y = Edge.log("Gs30000w00001");
        Edge.is(y.segmentOf(0, 4), 1);
    }

    private static void dueByAge() {
        Edge.sentence("or if setting 2 is above 0, and the time is at least as much above that when its last row was written");
        int[] ages = {1, 2, 3, 50, 98, 99};
        for (int age : ages) {
            // The first row is older: it does not count, nor does that of the open segment.
            TrimmedLog x = Edge.log("Gs00002w00001t05w00001t01w00001");
            x.set(2, age);
            if (age > 2) {
                Edge.is(x.ticks(age - 2), 0);
            }
            Edge.is(x.segmentOf(0, 4), age <= 1 ? 1 : 0);
            Edge.is(x.ticks(1), 1);
            Edge.is(x.about(7), age <= 2 ? 7 : 5 + age);
        }
        // More than as much.
        TrimmedLog y = Edge.log("Gs00001w00001w00001t09s20008");
        Edge.is(y.segmentOf(0, 4), 1);
        Edge.is(y.ticks(1), 1);
    }

    private static void neverByAge() {
        Edge.sentence("2: the age of rows that are due, 0 (never due by that, at first) to 99");
        TrimmedLog x = Edge.log("Gs00001w00001w00001t99t99t99");
        Edge.is(x.segmentOf(0, 4), 0);
        Edge.is(x.about(8), 0);
        x.set(2, 99);
        x.set(2, 0);
        Edge.is(x.ticks(99), 0);
        x.set(2, 99);
        Edge.is(x.ticks(1), 1);
    }

    private static void heldSegment() {
        Edge.sentence("It is held if a reader with a hold has a place that is not above its last row.");
        for (int place = 0; place <= 4; place++) {
            TrimmedLog x = Edge.log("Gs00003s30000j60+w00001w00001w00001w00001");
            if (place > 0) {
                x.read(6, place);
            }
            Edge.is(x.segmentOf(0, 5), place <= 2 ? 1 : 0);
            Edge.is(x.segmentOf(1, 5), place <= 3 ? 1 : 0);
            Edge.is(x.ticks(1), place <= 2 ? 0 : 1);
        }
    }

    private static void heldByHolders() {
        Edge.sentence("It is held if a reader with a hold");
        String[] readers = {"", "j00-", "j01+", "j00+", "j01+j70+", "j00-j71+", "j00+h0-", "j00+l0", "j00-h0+", "j00+r050"};
        int[] held = {0, 0, 0, 1, 1, 0, 0, 0, 1, 0};
        for (int i = 0; i < readers.length; i++) {
            TrimmedLog x = Edge.log("Gs00001s30000w00001w00001" + readers[i]);
            Edge.is(x.segmentOf(0, 5), held[i]);
            Edge.is(x.why(), held[i] == 1 ? 3 : 0);
            Edge.is(x.ticks(1), 1 - held[i]);
        }
    }

    // ---- settings

    private static void settingsAtFirst() {
        Edge.sentence("at first 4; .. at first 100; .. 0 (.. at first) ..; .. at first 400; .. 0 (.. at first) ..; "
                + ".. 0 (.. at first)");
        Edge.are(new TrimmedLog()::setting, 4, 100, 0, 400, 0, 0);
        // What they do then: four rows, 100 long, 400 in all, no age, any hold, any sleep.
        TrimmedLog x = Edge.rows(5, 25);
        Edge.is(x.about(2), 2);
        TrimmedLog y = Edge.rows(3, 40);
        Edge.is(y.about(2), 2);
        TrimmedLog z = Edge.rows(10, 40);
        Edge.is(z.ticks(99), 0);
        z.write(0, 0, 1);
        Edge.is(z.ticks(1), 1);
    }

    private static void settingRanges() {
        Edge.sentence("0: rows of a segment, 1 to 8 ..; 1: its length, 40 to 200 ..; 2: .. 0 .. to 99; 3: .. 0 to 4000 ..; "
                + "4: .. 0 .. to 4000; 5: .. 0 .. to 99.");
        int[] least = {1, 40, 0, 0, 0, 0};
        int[] most = {8, 200, 99, 4000, 4000, 99};
        for (int i = 0; i <= 5; i++) {
            int what = i;
            TrimmedLog x = new TrimmedLog();
            x.set(what, least[what]);
            Edge.is(x.setting(what), least[what]);
            x.set(what, most[what]);
            Edge.is(x.setting(what), most[what]);
            Edge.refused(Edge::busy, Edge.RANGE, y -> y.set(what, least[what] - 1));
            Edge.refused(Edge::busy, Edge.RANGE, y -> y.set(what, most[what] + 1));
        }
    }

    // ---- text

    private static TrimmedLog typed(int n) {
        TrimmedLog x = Edge.busy();
        x.clearText();
        for (int i = 0; i < n; i++) {
            x.append(i == 0 ? 'G' : 'x');
        }
        return x;
    }

    private static void textRoom() {
        Edge.sentence("The object has a text buffer of at most 120 characters.");
        Edge.is(typed(0).append('x'), 1);
        Edge.is(typed(118).append('x'), 119);
        Edge.is(typed(119).append('x'), 120);
        Edge.refused(() -> typed(120), Edge.STATE, x -> x.append('x'));
    }

    private static int error(String text) {
        TrimmedLog x = new TrimmedLog();
        Check.type(x, text);
        return x.errorPosition();
    }

    private static void emptyLog() {
        Edge.sentence("A log as a text is the letter G, and then any number of commands");
        Edge.is(error(""), 0);
        Edge.is(error("G"), NONE);
        Edge.is(error("Gl0"), NONE);
        Edge.is(error("g"), 0);
        Edge.is(error("F"), 0);
        Edge.is(error("H"), 0);
        Edge.is(error("l0"), 0);
        Edge.is(error("GG"), 1);
        // As many as there is room for: 59 of two characters, or 39 of three and one of two.
        Edge.is(error("G" + "l0".repeat(59)), NONE);
        Edge.is(error("G" + "t01".repeat(39) + "l0"), NONE);
        Edge.is(error("G" + "l0".repeat(59) + "l"), 120);
    }

    private static void leastAndGreatest() {
        Edge.sentence("w, a digit for a key (0 to 7), two digits for a value (00 to 99), and two for a length (01 to 40) .. "
                + "t and two digits (01 to 99)");
        String[] good = {"w00001", "w79940", "w09939", "j00+", "j72-", "j71+", "r001", "r750", "r749", "l0", "l7", "h0+",
            "h7-", "s00000", "s54000", "s53999", "s00001", "t01", "t99", "t98", "t10"};
        for (String command : good) {
            Edge.is(error("G" + command), NONE);
            Edge.is(error("G" + command + command), NONE);
        }
        String[] bad = {"w80001 2", "w00000 6", "w00041 6", "w000:1 5", "j80+ 2", "j03+ 3", "j00* 4", "j00, 4", "j00. 4",
            "r000 4", "r051 4", "r801 2", "l8 2", "h8+ 2", "h0* 3", "h0, 3", "s60000 2", "s04001 6", "s05000 3", "t00 3",
            "t0/ 3", "t9: 3", "W00001 1", "J00+ 1", "a 1", "u01 1", "i0 1", "v00001 1", "x00001 1", "q001 1", "k0 1"};
        for (String faulty : bad) {
            String[] parts = faulty.split(" ");
            Edge.is(error("G" + parts[0]), Integer.parseInt(parts[1]));
        }
    }

    /** All commands that there are, and all that one can begin with. */
    private static Set<String> fronts(Set<String> whole) {
        for (int name = 0; name <= 7; name++) {
            for (int how = 0; how <= 2; how++) {
                whole.add("j" + name + how + "+");
                whole.add("j" + name + how + "-");
            }
            for (int n = 1; n <= 50; n++) {
                whole.add(String.format("r%d%02d", name, n));
            }
            whole.add("l" + name);
            whole.add("h" + name + "+");
            whole.add("h" + name + "-");
            for (int value = 0; value <= 99; value++) {
                for (int length = 1; length <= 40; length++) {
                    whole.add(String.format("w%d%02d%02d", name, value, length));
                }
            }
        }
        for (int what = 0; what <= 5; what++) {
            for (int v = 0; v <= 4000; v++) {
                whole.add(String.format("s%d%04d", what, v));
            }
        }
        for (int n = 1; n <= 99; n++) {
            whole.add(String.format("t%02d", n));
        }
        Set<String> fronts = new HashSet<>();
        for (String command : whole) {
            for (int n = 0; n < command.length(); n++) {
                fronts.add(command.substring(0, n));
            }
        }
        return fronts;
    }

    private static void grammar() {
        Edge.sentence("The error position is the index of the first character that these rules do not allow at its place");
        Set<String> whole = new HashSet<>();
        Set<String> fronts = fronts(whole);
        TrimmedLog x = new TrimmedLog();
        int calls = 0;
        for (String front : fronts) {
            boolean thorough = front.length() < 3;
            for (char c = 0; c <= (thorough ? 255 : 15); c++) {
                char sign = thorough ? c : "+-0123456789/:G ".charAt(c);
                String text = "G" + front + sign;
                if (calls > 500) {
                    x = new TrimmedLog();
                    calls = 0;
                }
                Check.type(x, text);
                calls += text.length() + 2;
                int want = whole.contains(front + sign) ? NONE
                        : fronts.contains(front + sign) ? text.length() : text.length() - 1;
                Check.due("errorPosition() of \"" + text + "\", " + Edge.here(), x.errorPosition(), want);
            }
        }
    }

    private static void leftOut() {
        Edge.sentence("Commands that would throw an exception are left out.");
        String[] commands = {"r001", "l0", "h0+", "h0-", "j02+", "j02-", "s00000", "s00009", "s10039", "s10201", "s20100",
            "s50100"};
        for (String command : commands) {
            TrimmedLog x = new TrimmedLog();
            Check.type(x, "Gw00001" + command + "t01");
            Edge.is(x.load(), 1);
            x.clearText();
            Edge.alike(() -> Edge.log("Gw00001t01"), () -> {
                TrimmedLog y = new TrimmedLog();
                Check.type(y, "Gw00001" + command + "t01");
                y.load();
                y.clearText();
                return y;
            });
        }
        // Just inside, all of them are done.
        Edge.is(Edge.log("Gs00001s00008s10040s10200s20099s50099s34000s44000j00+l0j02+h0-h0+r050").about(4), 1);
    }

    private static void noBlanks() {
        Edge.sentence("There are no blanks.");
        Edge.is(error(" G"), 0);
        Edge.is(error("G "), 1);
        Edge.is(error("Gl0 "), 3);
        Edge.is(error("Gl 0"), 2);
        Edge.is(error("Gl0\n"), 3);
        Edge.is(error("Gl0\u0000"), 3);
        Edge.is(error("Gl0\u00a0"), 3);
    }

    private static void leftToRight() {
        Edge.sentence("The text is read from left to right.");
        TrimmedLog x = Edge.log("Gs00001w01101t01w01201j01+w01301");
        Edge.is(x.rowOf(0, 3), 0);
        Edge.is(x.rowOf(1, 3), 1);
        Edge.is(x.readerOf(0, 0), 2);
        Edge.is(x.table(0, 0), 12);
        // Of two faults the first one is told.
        Edge.is(error("Gt00t00"), 3);
        Edge.is(error("Gt01t00x"), 6);
    }

    private static void firstNotAllowed() {
        Edge.sentence("the index of the first character that these rules do not allow");
        String full = "G" + "t01".repeat(39) + "l0";
        for (int i = 0; i < full.length(); i++) {
            Edge.is(error(full.substring(0, i) + "?" + full.substring(i + 1)), i);
        }
        Edge.is(error(full), NONE);
    }

    private static void digitsThatMayBegin() {
        Edge.sentence("(a digit is not allowed if no number that is allowed begins with it and those before it)");
        Edge.is(error("Gw0005"), 5);
        Edge.is(error("Gw0004"), 6);
        Edge.is(error("Gw00041"), 6);
        Edge.is(error("Gw00000"), 6);
        Edge.is(error("Gr06"), 3);
        Edge.is(error("Gr05"), 4);
        Edge.is(error("Gr051"), 4);
        Edge.is(error("Gr000"), 4);
        Edge.is(error("Gs05"), 3);
        Edge.is(error("Gs04"), 4);
        Edge.is(error("Gs041"), 4);
        Edge.is(error("Gs0401"), 5);
        Edge.is(error("Gs04001"), 6);
        Edge.is(error("Gs04000"), NONE);
        Edge.is(error("Gs03999"), NONE);
        Edge.is(error("Gt00"), 3);
        Edge.is(error("Gt0"), 3);
    }

    private static void endsTooSoon() {
        Edge.sentence("if the text ends too soon, it is the length of the text");
        String[] commands = {"w00001", "j00+", "r001", "l0", "h0+", "s00000", "t01"};
        for (String command : commands) {
            for (int n = 1; n < command.length(); n++) {
                Edge.is(error("G" + command.substring(0, n)), n + 1);
                // The same at the very end of the buffer.
                String before = "G" + "t01".repeat((119 - n) % 2) + "l0".repeat((119 - n) / 2 - (119 - n) % 2);
                Edge.is((before + command.substring(0, n)).length(), 120);
                Edge.is(error(before + command.substring(0, n)), 120);
            }
            Edge.is(error("G" + command), NONE);
        }
        Edge.is(error(""), 0);
    }

    // ---- actions and undo

    private static void everythingButText() {
        Edge.sentence("the state, which consists of everything but the text and the save slots");
        TrimmedLog x = Edge.busy();
        String before = Check.picture(x);
        x.ticks(3);
        x.clearText();
        x.append('G');
        x.save(1);
        x.undo();
        // Text and slots are what they became, all else is what it was.
        Edge.is(x.clearText(), 1);
        Check.type(x, "Gt05w12340");
        Edge.same(Check.picture(x), before);
        Edge.is(x.restore(1), 4);
        Edge.is(x.restore(0), 1);
        Edge.is(x.about(7), 1);
        // That a reader has left, and where, is a part of it.
        TrimmedLog y = Edge.busy();
        y.join(2, 2, false);
        y.read(2, 1);
        y.leave(2);
        Edge.is(y.join(2, 2, false), 2);
        y.undo();
        y.undo();
        y.undo();
        y.undo();
        Edge.is(y.join(2, 2, false), 1);
    }

    private static void actionsWithoutChange() {
        Edge.sentence("Each call of one of them that does not throw an exception is an action, also if nothing becomes different");
        TrimmedLog x = Edge.log("Gj01+j11-");
        x.set(3, 400);
        x.hold(0, true);
        x.hold(1, false);
        x.read(0, 1);
        Edge.same(Check.picture(x), Check.picture(Edge.log("Gj01+j11-")));
        Edge.is(x.undo(), 3);
        Edge.is(x.undo(), 2);
        Edge.is(x.undo(), 1);
        Edge.is(x.undo(), 0);
        Edge.no(x, Edge.STATE, x::undo);
    }

    private static void throwingIsNoAction() {
        Edge.sentence("A call that throws an exception changes nothing.");
        List<ToIntFunction<TrimmedLog>> calls = List.of(
                x -> x.write(0, 0, 41), x -> x.join(0, 0, true), x -> x.join(8, 0, true), x -> x.read(2, 1), x -> x.read(0, 51),
                x -> x.leave(2), x -> x.hold(2, true), x -> x.hold(1, true), x -> x.set(0, 9), x -> x.ticks(100),
                x -> x.restore(1), x -> x.restore(2), x -> x.save(2), x -> x.append(256), x -> x.truth(8, 2, 0),
                x -> x.lostIn(2), x -> x.ifFree(2), x -> x.leastRoom(0), x -> x.runScript(1, 1000000), x -> x.simulate(0, 61));
        for (ToIntFunction<TrimmedLog> call : calls) {
            Edge.alike(Edge::busy, () -> {
                TrimmedLog x = Edge.busy();
                Edge.is(Check.answer(() -> call.applyAsInt(x)).endsWith("Exception") ? 1 : 0, 1);
                return x;
            });
        }
        // What throws does not push out the oldest state either.
        TrimmedLog x = new TrimmedLog();
        for (int i = 0; i < 14; i++) {
            x.write(0, 0, 1);
        }
        Edge.no(x, Edge.RANGE, () -> x.write(0, 0, 0));
        Edge.is(x.undo(), 13);
    }

    private static void stateBefore() {
        Edge.sentence("Before each action, the state is remembered.");
        List<ToIntFunction<TrimmedLog>> actions = List.of(
                x -> x.write(7, 99, 1), x -> x.write(1, 12, 40), x -> x.join(3, 0, true), x -> x.join(4, 1, false),
                x -> x.join(2, 2, false), x -> x.read(0, 1), x -> x.read(0, 50), x -> x.read(1, 1), x -> x.leave(0), x -> x.leave(1),
                x -> x.hold(0, false), x -> x.hold(0, true), x -> x.hold(1, false), x -> x.set(0, 1), x -> x.set(1, 40),
                x -> x.set(2, 99), x -> x.set(3, 0), x -> x.set(4, 1), x -> x.set(5, 1), x -> x.ticks(1), x -> x.ticks(99));
        for (ToIntFunction<TrimmedLog> action : actions) {
            takenBack(Edge::busy, action);
        }
        // Numbers of holds lost, rows missed, segments dropped, and who has left, are taken back too.
        TrimmedLog losing = Edge.losing();
        Edge.are(losing::about, 3, 1, 2, 20, 4, 2, 1, 2, 1, 1, 1, 1);
        Edge.is(losing.ticks(1), 1);
        Edge.are(losing::about, 3, 2, 1, 10, 4, 0, 2, 3, 2, 2, 2, 1);
        takenBack(Edge::losing, x -> x.ticks(1));
        takenBack(Edge::losing, x -> x.read(0, 1));
        takenBack(Edge::losing, x -> x.hold(3, true));
        takenBack(Edge::losing, x -> x.leave(5));
        takenBack(Edge::losing, x -> x.join(2, 2, false));
        takenBack(Edge::losing, x -> x.join(4, 1, false));
    }

    private static void takenBack(Supplier<TrimmedLog> made, ToIntFunction<TrimmedLog> action) {
        Edge.alike(made, () -> {
            TrimmedLog x = made.get();
            action.applyAsInt(x);
            x.undo();
            return x;
        });
    }

    private static void fourteenStates() {
        Edge.sentence("At most 14 states are remembered; when one more is remembered, the oldest one is forgotten.");
        for (int actions = 0; actions <= 16; actions++) {
            TrimmedLog x = new TrimmedLog();
            for (int i = 0; i < actions; i++) {
                x.write(0, i, 1);
            }
            int left = Math.min(actions, 14);
            for (int i = left - 1; i >= 0; i--) {
                Edge.is(x.undo(), i);
            }
            Edge.is(x.about(0), Math.max(0, actions - 14));
            Edge.no(x, Edge.STATE, x::undo);
        }
    }

    private static void noActions() {
        Edge.sentence("(undo is none) .. load and restore are not actions.");
        TrimmedLog x = Edge.rows(3, 1);
        Edge.is(x.undo(), 2);
        Edge.is(x.undo(), 1);
        Edge.is(x.undo(), 0);
        Edge.no(x, Edge.STATE, x::undo);
        TrimmedLog y = Edge.busy();
        y.load();
        Edge.no(y, Edge.STATE, y::undo);
        TrimmedLog z = Edge.busy();
        z.restore(0);
        Edge.no(z, Edge.STATE, z::undo);
        z.write(0, 0, 1);
        Edge.is(z.undo(), 0);
    }

    private static void constant() {
        Edge.sentence("NONE = -1: There is no such result.");
        Edge.is(TrimmedLog.NONE, -1);
    }
}
