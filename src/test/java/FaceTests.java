import java.lang.management.ManagementFactory;
import java.lang.reflect.Constructor;
import java.lang.reflect.Field;
import java.lang.reflect.Member;
import java.lang.reflect.Method;
import java.lang.reflect.Modifier;
import java.nio.file.Files;
import java.nio.file.Path;
import java.util.ArrayList;
import java.util.Arrays;
import java.util.HashSet;
import java.util.List;
import java.util.Set;
import java.util.TreeSet;
import java.util.function.IntSupplier;
import java.util.regex.Matcher;
import java.util.regex.Pattern;
import java.util.stream.Collectors;

/** The public face, the rules of LANGUAGE.md that can be seen from outside, wild arguments, and the room. */
public final class FaceTests {
    private static final String FACE = """
            append(int) throws IllegalArgumentException, IllegalStateException
            clearText()
            errorPosition()
            load() throws IllegalStateException
            about(int) throws IllegalArgumentException
            rowOf(int, int) throws IndexOutOfBoundsException, IllegalArgumentException
            segmentOf(int, int) throws IndexOutOfBoundsException, IllegalArgumentException
            readerOf(int, int) throws IndexOutOfBoundsException, IllegalArgumentException
            table(int, int) throws IndexOutOfBoundsException, IllegalArgumentException
            base(int) throws IllegalArgumentException
            setting(int) throws IllegalArgumentException
            write(int, int, int) throws IllegalArgumentException, IllegalStateException
            join(int, int, boolean) throws IllegalArgumentException, IllegalStateException
            read(int, int) throws IndexOutOfBoundsException, IllegalArgumentException
            leave(int) throws IndexOutOfBoundsException
            hold(int, boolean) throws IndexOutOfBoundsException, IllegalStateException
            set(int, int) throws IllegalArgumentException
            ticks(int) throws IllegalArgumentException
            undo() throws IllegalStateException
            why()
            slowest()
            truth(int, int, int) throws IndexOutOfBoundsException, IllegalArgumentException
            droppedIn()
            lostIn(int) throws IndexOutOfBoundsException
            ifFree(int) throws IndexOutOfBoundsException
            leastRoom(int) throws IllegalArgumentException
            runScript(int, long) throws IllegalArgumentException
            simulate(long, int) throws IllegalArgumentException
            save(int) throws IndexOutOfBoundsException
            restore(int) throws IndexOutOfBoundsException, IllegalStateException
            """;
    // What the class may call, beside its own classes.
    private static final Pattern FOREIGN = Pattern.compile(
            "\\b(import|package|finally|synchronized|assert|volatile|transient|native|protected|goto|lambda|var|yield)\\b"
            + "|->|::|\\bcatch\\b|\\btry\\b|\\bfloat\\b|\\bdouble\\b|@|\\bObject\\b|\\bequals\\b|\\bhashCode\\b|\\btoString\\b");
    private static final Set<String> LIBRARY = Set.of("Math.min", "Math.max", "System.arraycopy");
    private static final int[] WILD = {0, 1, 7, -1, 8, 40, 120, 199, 200, 4000, 255, 256,
        Integer.MAX_VALUE, Integer.MIN_VALUE, Integer.MAX_VALUE - 1, Integer.MIN_VALUE + 1, 1 << 30};

    private FaceTests() {
    }

    public static void main(String[] args) throws Exception {
        face();
        members();
        source();
        wild();
        room();
        Check.end("FaceTests");
    }

    private static void face() throws Exception {
        Class<TrimmedLog> c = TrimmedLog.class;
        Check.due("the class's modifiers", c.getModifiers(), Modifier.PUBLIC | Modifier.FINAL);
        Check.due("its package", c.getPackageName(), "");
        Constructor<?>[] makers = c.getDeclaredConstructors();
        Check.due("its constructors", makers.length, 1);
        Check.due("its constructor", makers[0].toString(), "public TrimmedLog()");
        Field none = c.getField("NONE");
        Check.due("NONE", none.toString() + " " + none.getInt(null), "public static final int TrimmedLog.NONE -1");
        Check.due("its public fields", c.getFields().length, 1);
        Set<String> got = new TreeSet<>();
        for (Method m : c.getDeclaredMethods()) {
            if (!Modifier.isPrivate(m.getModifiers())) {
                Check.due(m.getName() + ", its modifiers", Modifier.toString(m.getModifiers()), "public");
                Check.due(m.getName() + ", its type", m.getReturnType().getName(), "int");
                got.add(m.getName() + names(m.getParameterTypes(), "(", ")", true)
                        + names(m.getExceptionTypes(), " throws ", "", false));
            }
        }
        Set<String> want = new TreeSet<>(Arrays.asList(FACE.split("\n")));
        Check.due("its methods", got.toString(), want.toString());
    }

    private static String names(Class<?>[] types, String before, String behind, boolean always) {
        String all = Arrays.stream(types).map(Class::getSimpleName).collect(Collectors.joining(", "));
        return types.length == 0 && !always ? "" : before + all + behind;
    }

    /** Rules 1, 2, 5 and 11. */
    private static void members() {
        Set<String> publicNames = new HashSet<>();
        for (Method m : TrimmedLog.class.getMethods()) {
            publicNames.add(m.getName());
        }
        List<Class<?>> all = new ArrayList<>(List.of(TrimmedLog.class.getDeclaredClasses()));
        Check.due("the classes inside, at most 11", all.size() <= 11 ? 0 : all.size(), 0);
        for (Class<?> inner : all) {
            Check.due(inner + " is static", Modifier.isStatic(inner.getModifiers()) ? 1 : 0, 1);
            Check.due(inner + " is not public", inner.getModifiers() & (Modifier.PUBLIC | Modifier.PROTECTED), 0);
        }
        all.add(TrimmedLog.class);
        for (Class<?> c : all) {
            int own = 0;
            for (Field f : c.getDeclaredFields()) {
                boolean still = Modifier.isStatic(f.getModifiers());
                Check.due(f + " is final if it is static", still && !Modifier.isFinal(f.getModifiers()) ? 1 : 0, 0);
                Check.due(f + " is hidden", hidden(c, f), 1);
                own += still ? 0 : 1;
            }
            Check.due(c + ", its fields, at most 20", own <= 20 ? 0 : own, 0);
            for (Method m : c.getDeclaredMethods()) {
                Check.due(m + " is hidden", hidden(c, m), 1);
                Check.due(m + ", its parameters, at most 7", m.getParameterCount() <= 7 ? 1 : 0, 1);
                boolean face = c == TrimmedLog.class && Modifier.isPublic(m.getModifiers());
                Check.due(m + " bears no public name", !face && publicNames.contains(m.getName()) ? 1 : 0, 0);
            }
        }
    }

    private static int hidden(Class<?> c, Member m) {
        int seen = m.getModifiers() & (Modifier.PUBLIC | Modifier.PROTECTED);
        if (c != TrimmedLog.class) {
            return seen == 0 ? 1 : 0;
        }
        return seen == Modifier.PUBLIC || Modifier.isPrivate(m.getModifiers()) ? 1 : 0;
    }

    /** Rules 3, 4, 6 and 11, as far as the text of the program tells. */
    private static void source() throws Exception {
        String text = Files.readString(Path.of("src/main/java/TrimmedLog.java"));
        for (int i = 0; i < text.length(); i++) {
            if (text.charAt(i) > 126) {
                Check.fail("a sign above 126 in the program, at " + i);
            }
        }
        String code = text.replaceAll("(?s)/\\*.*?\\*/", "").replaceAll("//[^\n]*", "")
                .replaceAll("\"[^\"\n]*\"", "\"\"");
        Matcher m = FOREIGN.matcher(code);
        while (m.find()) {
            Check.fail("not of LANGUAGE.md: " + m.group());
        }
        Matcher calls = Pattern.compile("\\b(Math|System|Integer|Long|Arrays|List|String|Character)\\.\\w+").matcher(code);
        while (calls.find()) {
            Check.due("allowed: " + calls.group(), LIBRARY.contains(calls.group()) ? 1 : 0, 1);
        }
        Matcher thrown = Pattern.compile("throw\\s+(?!new (IllegalState|IllegalArgument|IndexOutOfBounds)Exception\\(\"\"\\);).*")
                .matcher(code);
        Check.due("throws of another form", thrown.find() ? thrown.group() : "", "");
        int length = 0;
        for (String line : code.split("\n")) {
            length = line.matches(" {4}( {4})?\\S.*\\) .*\\{|.*class .*") ? 0 : length + 1;
            Check.due("a method is short, at " + line, length <= 60 ? 0 : length, 0);
        }
    }

    /** No arguments, however wild, let anything but the three exceptions out. */
    private static void wild() {
        TrimmedLog x = new TrimmedLog();
        for (int round = 0; round < 3; round++) {
            for (int a : WILD) {
                every(x, a, 0, 0);
                for (int b : WILD) {
                    every(x, a, b, b);
                    every(x, b % 8, a, b % 3);
                }
            }
            Check.type(x, round == 0 ? "G" : "Gs00001s30000j00-j10+w00010w00110w00210l1t01");
            x.load();
        }
    }

    private static void every(TrimmedLog x, int a, int b, int c) {
        IntSupplier[] calls = {
            () -> x.append(a), x::errorPosition, () -> x.about(a), () -> x.rowOf(a, b), () -> x.segmentOf(a, b),
            () -> x.readerOf(a, b), () -> x.table(a, b), () -> x.base(a), () -> x.setting(a),
            () -> x.write(a, b, c), () -> x.join(a, b, c > 0), () -> x.read(a, b), () -> x.hold(a, b > 0),
            () -> x.set(a, b), () -> x.ticks(a), () -> x.truth(a, b, c), x::droppedIn, () -> x.lostIn(a),
            () -> x.ifFree(a), () -> x.leastRoom(a), () -> x.runScript(a, (long) b * c), () -> x.runScript(3, (long) a << 20),
            () -> x.simulate((long) a * b, c), () -> x.save(a), x::why, x::slowest, () -> x.leave(b), x::undo,
            () -> x.restore(b)};
        for (IntSupplier call : calls) {
            String answer = Check.answer(call);
            boolean number = answer.matches("-?[0-9]+");
            boolean known = Set.of("IllegalArgumentException", "IllegalStateException", "IndexOutOfBoundsException")
                    .contains(answer);
            Check.due("a call with " + a + ", " + b + ", " + c + " answers " + answer, number || known ? 1 : 0, 1);
        }
    }

    /** A new object, and 512 of the dearest calls, in far less room than there is. */
    private static void room() {
        var thread = (com.sun.management.ThreadMXBean) ManagementFactory.getThreadMXBean();
        long before = thread.getCurrentThreadAllocatedBytes();
        TrimmedLog x = new TrimmedLog();
        long made = thread.getCurrentThreadAllocatedBytes() - before;
        Check.due("bytes of a new object, at most 400000: " + made, made <= 400000 ? 1 : 0, 1);
        for (int i = 0; i < 190; i++) {
            x.write(i % 8, 1, 40);
        }
        Check.type(x, "Gj00+j10+w00001w00002t99t99");
        before = thread.getCurrentThreadAllocatedBytes();
        for (int i = 0; i < 512; i++) {
            x.simulate(i, 60);
            x.leastRoom(200);
            x.droppedIn();
            x.runScript(3, 100001100001500099L);
            x.save(1);
            x.restore(1);
            x.ticks(1);
            x.undo();
            x.errorPosition();
        }
        x.load();
        made = thread.getCurrentThreadAllocatedBytes() - before;
        Check.due("bytes of some 4600 calls, at most 100000: " + made, made <= 100000 ? 1 : 0, 1);
    }
}
