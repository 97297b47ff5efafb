import java.util.function.IntSupplier;

/** Counts and prints what is not as it is due; every test's main method ends with end(). */
final class Check {
    private static final int TEXT = 120;
    private static int wrong = 0;
    private static int checked = 0;

    private Check() {
    }

    static void due(String what, long got, long want) {
        checked++;
        if (got != want) {
            fail(what + " answered " + got + ", due is " + want);
        }
    }

    static void due(String what, String got, String want) {
        checked++;
        if (!got.equals(want)) {
            fail(what + " answered " + got + ", due is " + want);
        }
    }

    static void fail(String what) {
        wrong++;
        if (wrong <= 40) {
            System.out.println(what);
        }
    }

    /** The answer of a call, or the name of what it throws. */
    static String answer(IntSupplier call) {
        try {
            return Integer.toString(call.getAsInt());
        } catch (RuntimeException e) {
            return e.getClass().getSimpleName();
        }
    }

    /** The call must throw this very exception, and nothing that can be seen may become different. */
    static void refused(String what, TrimmedLog x, Class<? extends RuntimeException> want, IntSupplier call) {
        String before = picture(x);
        due(what, answer(call), want.getSimpleName());
        due(what + ", the state behind it", picture(x), before);
    }

    /** All that can be seen of the state without changing it. */
    static String picture(TrimmedLog x) {
        StringBuilder b = new StringBuilder();
        for (int what = 0; what <= 11; what++) {
            b.append(x.about(what)).append(' ');
        }
        for (int what = 0; what <= 5; what++) {
            b.append(x.setting(what)).append(' ');
        }
        for (int key = 0; key <= 7; key++) {
            b.append(x.base(key)).append(' ');
        }
        for (int i = x.about(1); i < x.about(0); i++) {
            b.append("| row ").append(i);
            for (int what = 0; what <= 5; what++) {
                b.append(' ').append(x.rowOf(i, what));
            }
        }
        for (int k = 0; k < x.about(2); k++) {
            b.append("| segment ").append(k);
            for (int what = 0; what <= 5; what++) {
                b.append(' ').append(x.segmentOf(k, what));
            }
        }
        for (int name = 0; name <= 7; name++) {
            pictureOfReader(x, name, b);
        }
        return b.append("| text ").append(x.errorPosition()).toString();
    }

    private static void pictureOfReader(TrimmedLog x, int name, StringBuilder b) {
        if (answer(() -> x.readerOf(name, 0)).startsWith("Index")) {
            return;
        }
        b.append("| reader ").append(name);
        for (int what = 0; what <= 8; what++) {
            b.append(' ').append(x.readerOf(name, what));
        }
        for (int key = 0; key <= 7; key++) {
            b.append(' ').append(x.table(name, key));
        }
    }

    static void type(TrimmedLog x, String text) {
        x.clearText();
        for (int i = 0; i < text.length(); i++) {
            x.append(text.charAt(i));
        }
    }

    /** A log that was loaded from a text; the text stays in the buffer. */
    static TrimmedLog loaded(String text) {
        if (text.length() > TEXT) {
            throw new IllegalStateException("the test's text is too long: " + text);
        }
        TrimmedLog x = new TrimmedLog();
        type(x, text);
        due("load() of " + text, answer(x::load), "0");
        return x;
    }

    static void end(String name) {
        System.out.println(name + ": " + checked + " checks, " + wrong + " wrong");
        if (wrong != 0) {
            System.exit(1);
        }
    }
}
