import java.io.IOException;
import java.lang.reflect.InvocationTargetException;
import java.lang.reflect.Method;
import java.lang.reflect.Modifier;
import java.nio.file.Files;
import java.nio.file.Path;
import java.util.ArrayList;
import java.util.HashMap;
import java.util.List;
import java.util.Map;
import java.util.TreeMap;
import java.util.TreeSet;
import java.util.regex.Matcher;
import java.util.regex.Pattern;
import java.util.stream.Stream;

/** README.md says what is so: its program answers as it says there, its table of refused calls holds. */
public final class ReadmeTests {
    private static final int NO_SUCH_NUMBER = -7;
    private static final Pattern EXAMPLE = Pattern.compile("(?s)```java\\n(.*?)```");
    private static final Pattern CALL =
            Pattern.compile("(?:int (\\w+) = )?welds\\.(\\w+)\\(([^)]*)\\); +// (-?\\d+|true|false)(?:: .*)?");
    private static final Pattern ROW =
            Pattern.compile("\\| `(\\w+)\\(([^)]*)\\)` \\| [^|]+ \\| (?:`([^`]+)`|never) \\|[^|]*\\|");

    private final Checker c = new Checker();
    private final Map<String, Method> face = new TreeMap<>();
    private final String page;

    private ReadmeTests() throws IOException {
        page = Files.readString(Path.of("README.md"));
        for (Method m : RubbedWelds.class.getDeclaredMethods()) {
            if (Modifier.isPublic(m.getModifiers())) {
                face.put(m.getName(), m);
            }
        }
    }

    private static String answer(RubbedWelds welds, Method m, Object[] args) throws IllegalAccessException {
        try {
            return String.valueOf(m.invoke(welds, args));
        } catch (InvocationTargetException e) {
            return e.getCause().getClass().getSimpleName();
        }
    }

    private static List<String> words(String list) {
        return list.isEmpty() ? List.of() : List.of(list.split(", "));
    }

    private void example() throws IllegalAccessException {
        Matcher found = EXAMPLE.matcher(page);
        c.due("there is an example", true, found.find());
        String[] lines = found.group(1).split("\\n");
        c.due("the example begins with an object", "RubbedWelds welds = new RubbedWelds();", lines[0]);
        RubbedWelds welds = new RubbedWelds();
        Map<String, Object> known = new HashMap<>(Map.of("RubbedWelds.NONE", RubbedWelds.NONE,
                "true", true, "false", false));
        for (int i = 1; i < lines.length; i++) {
            exampleLine(welds, known, lines[i]);
        }
    }

    private void exampleLine(RubbedWelds welds, Map<String, Object> known, String line)
            throws IllegalAccessException {
        Matcher call = CALL.matcher(line);
        boolean isCall = call.matches() && face.containsKey(call.group(2));
        c.due("a call of the face, with its answer: " + line, true, isCall);
        if (!isCall) {
            return;
        }
        List<Object> args = new ArrayList<>();
        for (String word : words(call.group(3))) {
            args.add(known.containsKey(word) ? known.get(word) : Integer.valueOf(word));
        }
        String got = answer(welds, face.get(call.group(2)), args.toArray());
        c.due(line, call.group(4), got);
        if (call.group(1) != null) {
            known.put(call.group(1), Integer.valueOf(got));
        }
    }

    private void refusedCalls() throws IllegalAccessException {
        TreeSet<String> named = new TreeSet<>();
        Matcher row = ROW.matcher(page);
        while (row.find()) {
            Method m = face.get(row.group(1));
            c.due(row.group(1) + " is of the face, and stands once", true, m != null && named.add(row.group(1)));
            if (m == null) {
                continue;
            }
            c.due(row.group(1) + "'s parameters", m.getParameterCount(), words(row.group(2)).size());
            refusedCall(m, row.group(3) == null ? "null" : row.group(3));
        }
        c.due("rows of refused calls", face.keySet().toString(), named.toString());
    }

    private void refusedCall(Method m, String due) throws IllegalAccessException {
        RubbedWelds welds = new RubbedWelds();
        Class<?>[] types = m.getParameterTypes();
        Object[] args = new Object[types.length];
        for (int i = 0; i < types.length; i++) {
            args[i] = types[i] == boolean.class ? (Object) true : (Object) NO_SUCH_NUMBER;
        }
        c.due("refused " + m.getName(), due, answer(welds, m, args));
        for (int what = 0; what <= 6; what++) {
            c.due("refused " + m.getName() + ", count " + what, 0, welds.count(what));
        }
    }

    private void namesOfTests() throws IOException {
        c.due("names .ci/run", true, page.contains("`.ci/run`"));
        try (Stream<Path> files = Files.list(Path.of("src/test/java"))) {
            for (String name : files.map(file -> file.getFileName().toString()).toList()) {
                String test = name.replace(".java", "");
                c.due("names " + test, true, !test.endsWith("Tests") || page.contains("- `" + test + "`:"));
            }
        }
    }

    public static void main(String[] args) throws Exception {
        ReadmeTests tests = new ReadmeTests();
        tests.example();
        tests.refusedCalls();
        tests.namesOfTests();
        tests.c.close();
    }
}
