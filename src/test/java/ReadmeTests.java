import java.lang.reflect.InvocationTargetException;
import java.lang.reflect.Method;
import java.lang.reflect.Modifier;
import java.nio.file.Files;
import java.nio.file.Path;
import java.util.Arrays;
import java.util.List;
import java.util.TreeSet;
import java.util.regex.Matcher;
import java.util.regex.Pattern;
import java.util.stream.Collectors;
import java.util.stream.Stream;

/** README.md as it stands: the answers in its examples, and the calls and the tests that it names. */
public final class ReadmeTests {
    private static final Path README = Path.of("README.md");
    private static final Path TESTS = Path.of("src/test/java");
    private static final Pattern EXAMPLE = Pattern.compile("(?ms)^```java\n(.*?)^```$");
    private static final Pattern MAKER = Pattern.compile("TrimmedLog log = new TrimmedLog\\(\\);");
    private static final Pattern TYPING =
            Pattern.compile("for \\(char c : \"([^\"]*)\"\\.toCharArray\\(\\)\\) log\\.append\\(c\\);");
    private static final Pattern CALL = Pattern.compile("log\\.(\\w+)\\((.*)\\); +// (NONE|-?[0-9]+|\\w+Exception)(: .*)?");

    private ReadmeTests() {
    }

    public static void main(String[] args) throws Exception {
        String page = Files.readString(README);
        examples(page);
        calls(page);
        tests(page);
        Check.end("ReadmeTests");
    }

    private static void examples(String page) throws Exception {
        Matcher m = EXAMPLE.matcher(page);
        int n = 0;
        while (m.find()) {
            example(m.group(1));
            n++;
        }
        Check.due("the examples are found", n > 0 ? 1 : 0, 1);
    }

    private static void example(String lines) throws Exception {
        TrimmedLog log = null;
        for (String line : lines.split("\n")) {
            Matcher typing = TYPING.matcher(line);
            Matcher call = CALL.matcher(line);
            if (MAKER.matcher(line).matches()) {
                log = new TrimmedLog();
            } else if (log != null && typing.matches()) {
                Check.type(log, typing.group(1));
            } else if (log != null && call.matches()) {
                String want = call.group(3).equals("NONE") ? "-1" : call.group(3);
                Check.due(line, answer(log, call.group(1), call.group(2)), want);
            } else {
                Check.fail("not understood: " + line);
            }
        }
    }

    private static String answer(TrimmedLog log, String name, String list) throws Exception {
        String[] words = list.isEmpty() ? new String[0] : list.split(", ");
        for (Method m : TrimmedLog.class.getMethods()) {
            if (m.getName().equals(name) && m.getParameterCount() == words.length) {
                Object[] values = new Object[words.length];
                for (int i = 0; i < words.length; i++) {
                    values[i] = value(m.getParameterTypes()[i], words[i]);
                }
                return answer(log, m, values);
            }
        }
        return "no such call";
    }

    private static String answer(TrimmedLog log, Method m, Object[] values) throws IllegalAccessException {
        try {
            return m.invoke(log, values).toString();
        } catch (InvocationTargetException e) {
            return e.getCause().getClass().getSimpleName();
        }
    }

    private static Object value(Class<?> type, String word) {
        if (type == boolean.class) {
            return Boolean.valueOf(word);
        } else if (type == long.class) {
            return Long.valueOf(word.replace("L", ""));
        }
        return word.startsWith("'") ? Integer.valueOf(word.charAt(1)) : Integer.valueOf(word);
    }

    /** Every call stands in the table once, with as many arguments as it has. */
    private static void calls(String page) {
        for (Method m : TrimmedLog.class.getDeclaredMethods()) {
            if (Modifier.isPublic(m.getModifiers())) {
                String words = Stream.generate(() -> "\\w+").limit(m.getParameterCount()).collect(Collectors.joining(", "));
                Matcher row = Pattern.compile("(?m)^\\|[^|]*`" + m.getName() + "\\(" + words + "\\)`").matcher(page);
                Check.due("README.md tells of " + m, row.find() ? 1 : 0, 1);
            }
        }
        List<String> known = Arrays.stream(TrimmedLog.class.getMethods()).map(Method::getName).toList();
        Matcher told = Pattern.compile("`(\\w+)\\([^`]*`").matcher(page);
        while (told.find()) {
            Check.due("a call that there is: " + told.group(), known.contains(told.group(1)) ? 1 : 0, 1);
        }
    }

    /** Every source under src/test/java is named, and nothing that is named as a test is missing there. */
    private static void tests(String page) throws Exception {
        TreeSet<String> there = new TreeSet<>();
        try (Stream<Path> files = Files.list(TESTS)) {
            files.forEach(f -> there.add(f.getFileName().toString().replace(".java", "")));
        }
        String part = page.substring(page.indexOf("## Tests"));
        for (String name : there) {
            Check.due("README.md names " + name, part.contains("`" + name + "`") ? 1 : 0, 1);
        }
        Matcher named = Pattern.compile("\\b\\w+Tests\\b").matcher(part);
        while (named.find()) {
            Check.due("there is a test " + named.group(), there.contains(named.group()) ? 1 : 0, 1);
        }
    }
}
