import java.util.Arrays;
import java.util.function.Function;
import java.util.function.IntSupplier;
import java.util.function.Supplier;
import java.util.function.ToIntFunction;

/** What the tests of single sentences share: the sentence at hand, what is due, and calls that change nothing. */
final class Edge {
    static final int NONE = TrimmedLog.NONE;
    static final Class<IllegalArgumentException> RANGE = IllegalArgumentException.class;
    static final Class<IllegalStateException> STATE = IllegalStateException.class;
    static final Class<IndexOutOfBoundsException> INDEX = IndexOutOfBoundsException.class;

    // Each looks at an object in a way of its own, and may wear it out: they tell two objects apart
    // by everything that later calls can show, not only by what can be asked without a change.
    private static final Probe[] PROBES = {Edge::shown, Edge::remembered, Edge::slots, Edge::leftNames, Edge::text};

    private static String words = "";

    private Edge() {
    }

    private interface Probe extends Function<TrimmedLog, String> {
    }

    static void runAll(Class<?> holder, Runnable... tests) {
        // A test that was written but not named here would never be missed.
        long written = Arrays.stream(holder.getDeclaredMethods())
                .filter(m -> m.getParameterCount() == 0 && m.getReturnType() == void.class && !m.isSynthetic()).count();
        Check.due("the tests of " + holder.getName() + " that are run", tests.length, written);
        for (Runnable test : tests) {
            words = "";
            try {
                test.run();
            } catch (RuntimeException e) {
                Check.fail("\"" + words + "\" ended with " + e + " at " + e.getStackTrace()[0] + ", " + here());
            }
        }
        Check.end(holder.getName());
    }

    /** The sentence of the document that the checks behind it are of. */
    static void sentence(String sentence) {
        words = sentence;
    }

    static String here() {
        return StackWalker.getInstance().walk(frames -> frames
                .filter(f -> !f.getClassName().startsWith("Edge$") && !f.getClassName().equals("Edge"))
                .findFirst().map(f -> "\"" + words + "\", " + f.getClassName() + " line " + f.getLineNumber())
                .orElse(words));
    }

    static void is(long got, long want) {
        Check.due(here(), got, want);
    }

    static void same(String got, String want) {
        Check.due(here(), got, want);
    }

    /** The answers of all numbers of one kind, from 0 on. */
    static void are(ToIntFunction<Integer> call, int... want) {
        for (int what = 0; what < want.length; what++) {
            Check.due(here() + ", number " + what, call.applyAsInt(what), want[what]);
        }
    }

    /** The call must throw this very exception, and nothing that can be asked may become different. */
    static void no(TrimmedLog x, Class<? extends RuntimeException> want, IntSupplier call) {
        Check.refused(here(), x, want, call);
    }

    /** On what is made, the call must throw this very exception, and leave everything as it was. */
    static void refused(Supplier<TrimmedLog> made, Class<? extends RuntimeException> want, ToIntFunction<TrimmedLog> call) {
        unchanged(made, call, want.getSimpleName());
    }

    /** On what is made, the call must answer this, and leave everything as it was. */
    static void asked(Supplier<TrimmedLog> made, int want, ToIntFunction<TrimmedLog> call) {
        unchanged(made, call, Integer.toString(want));
    }

    private static void unchanged(Supplier<TrimmedLog> made, ToIntFunction<TrimmedLog> call, String want) {
        for (int i = 0; i < PROBES.length; i++) {
            TrimmedLog x = made.get();
            Check.due(here(), Check.answer(() -> call.applyAsInt(x)), want);
            Check.due(here() + ", what is behind it", PROBES[i].apply(x), PROBES[i].apply(made.get()));
        }
    }

    /** That two objects can't be told apart by any later calls. */
    static void alike(Supplier<TrimmedLog> one, Supplier<TrimmedLog> other) {
        for (int i = 0; i < PROBES.length; i++) {
            Check.due(here(), PROBES[i].apply(one.get()), PROBES[i].apply(other.get()));
        }
    }

    private static String shown(TrimmedLog x) {
        StringBuilder b = new StringBuilder(Check.picture(x));
        b.append(" would be ").append(x.why()).append(' ').append(x.slowest()).append(' ').append(x.droppedIn());
        b.append(' ').append(x.leastRoom(1)).append(' ').append(x.leastRoom(200));
        for (int i = 0; i <= 7; i++) {
            int name = i;
            b.append(' ').append(Check.answer(() -> x.lostIn(name))).append(' ').append(Check.answer(() -> x.ifFree(name)));
        }
        return b.toString();
    }

    private static String remembered(TrimmedLog x) {
        StringBuilder b = new StringBuilder();
        for (int i = 0; i < 15; i++) {
            b.append(Check.answer(x::undo)).append(' ').append(Check.picture(x)).append('\n');
        }
        return b.toString();
    }

    private static String slots(TrimmedLog x) {
        StringBuilder b = new StringBuilder();
        for (int i = 0; i <= 1; i++) {
            int slot = i;
            b.append(Check.answer(() -> x.restore(slot))).append(' ').append(Check.picture(x)).append('\n');
        }
        return b.toString();
    }

    private static String leftNames(TrimmedLog x) {
        StringBuilder b = new StringBuilder();
        for (int i = 0; i <= 7; i++) {
            int name = i;
            b.append(Check.answer(() -> x.join(name, 2, false))).append(' ');
        }
        return b.append(Check.picture(x)).toString();
    }

    private static String text(TrimmedLog x) {
        StringBuilder b = new StringBuilder();
        b.append(x.errorPosition()).append(' ').append(Check.answer(x::load)).append(' ').append(Check.picture(x));
        // Digits behind it tell two faulty texts apart by where the fault lies then.
        b.append(Check.answer(() -> x.append('1'))).append(' ').append(x.errorPosition());
        return b.append(' ').append(x.clearText()).toString();
    }

    /** A log that was loaded from a text, and the text taken away. */
    static TrimmedLog log(String text) {
        TrimmedLog x = Check.loaded(text);
        x.clearText();
        return x;
    }

    /** A log of n rows, of key i % 8, value i % 100, and this length, in a new object. */
    static TrimmedLog rows(int n, int length) {
        TrimmedLog x = new TrimmedLog();
        for (int i = 0; i < n; i++) {
            x.write(i % 8, i % 100, length);
        }
        return x;
    }

    /**
     * One of everything. Rows 2 to 6 of lengths 10, 10, 10, 10, 40 in three segments; base 11 and 22 of keys 1 and 2;
     * reader 0 at 2 with a hold; 1 at 0 with a gap; 2 left at 1; slot 0 saved; 5 states; a text that is a log.
     */
    static TrimmedLog busy() {
        TrimmedLog x = log("Gs00002s30050j00+j10-j20-w11110w22210w11310w33410w11510w22610");
        x.read(0, 2);
        x.read(2, 1);
        x.leave(2);
        x.ticks(1);
        x.save(0);
        x.write(4, 44, 40);
        Check.type(x, "Gt05w12340");
        return x;
    }

    /** The same with a text that is no log. */
    static TrimmedLog busyWithFault() {
        TrimmedLog x = busy();
        x.append('s');
        return x;
    }

    /**
     * Time 2, rows 1 and 2, 9 states, both slots saved. Reason 1 took the hold of reader 0, reason 2 that of 2; reader 3
     * missed a row; 2 and 4 left. The next tick takes that of 5 by reason 1, that of 6 by reason 2, and drops row 1.
     */
    static TrimmedLog losing() {
        TrimmedLog x = log("Gs00001s30000s40010s50002j00+j30-w00010w11110j21+t01t01");
        x.save(0);
        x.read(3, 1);
        x.read(3, 1);
        x.leave(2);
        x.join(4, 0, true);
        x.leave(4);
        x.join(5, 0, true);
        x.set(5, 1);
        x.write(2, 22, 10);
        x.join(6, 1, true);
        x.save(1);
        return x;
    }
}
