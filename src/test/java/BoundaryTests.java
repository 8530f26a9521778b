import java.io.IOException;
import java.lang.reflect.InvocationTargetException;
import java.lang.reflect.Method;
import java.nio.file.Files;
import java.nio.file.Path;
import java.util.ArrayList;
import java.util.Arrays;
import java.util.Comparator;
import java.util.List;
import java.util.regex.Matcher;
import java.util.regex.Pattern;

/**
 * Runs every boundary case, and holds the cases against the document: the words that a case names must stand in its
 * promise or in the terms, and every word of the promises and the terms must be named by a case.
 */
public final class BoundaryTests {
    private static final Path DOC = Path.of("../shared/DOC.md");
    private static final int PROMISES = 32;
    private static final Class<?>[] CASES = {BoundsOfStuffs.class, BoundsOfWelds.class, BoundsOfWindows.class,
        BoundsOfTape.class, BoundsOfJoints.class, BoundsOfWork.class};

    private final Checker c = new Checker();
    private final List<Method> cases = new ArrayList<>();

    /** A part of the document, and which of its signs were named. */
    private static final class Part {
        private final String name;
        private final String text;
        private final boolean[] named;

        private Part(String name, String text) {
            this.name = name;
            this.text = text.replaceAll("```\\w*|==== \\d\\.", " ").replaceAll("\\s+", " ");
            named = new boolean[this.text.length()];
        }

        private boolean mark(String words) {
            int at = text.indexOf(words);
            boolean stands = at >= 0;
            for (; at >= 0; at = text.indexOf(words, at + 1)) {
                Arrays.fill(named, at, at + words.length(), true);
            }
            return stands;
        }

        private String missed() {
            StringBuilder missed = new StringBuilder();
            for (int i = 0; i < named.length; i++) {
                if (!named[i] && Character.isLetterOrDigit(text.charAt(i))) {
                    missed.append(text.charAt(i));
                } else if (!named[i]) {
                    missed.append(' ');
                }
            }
            return missed.toString().replaceAll("\\s+", " ").strip();
        }
    }

    private void collect() {
        for (Class<?> type : CASES) {
            Method[] methods = type.getDeclaredMethods();
            Arrays.sort(methods, Comparator.comparing(Method::getName));
            for (Method method : methods) {
                if (method.isAnnotationPresent(Case.class)) {
                    cases.add(method);
                }
            }
        }
    }

    private void runAll() throws IllegalAccessException {
        for (Method method : cases) {
            Case its = method.getAnnotation(Case.class);
            c.begin("promise " + its.promise() + ", " + method.getName());
            int asked = c.asked();
            try {
                method.invoke(null, c);
            } catch (InvocationTargetException e) {
                c.due("thrown " + e.getCause(), 0, 1);
            }
            c.due("asks something", true, c.asked() > asked);
        }
    }

    private static List<Part> readParts() throws IOException {
        String text = Files.readString(DOC);
        List<Part> parts = new ArrayList<>();
        parts.add(new Part("terms", between(text, "## Terms", "## Promise 1:")));
        Matcher promise = Pattern.compile("(?s)## Promise (\\d+): [^\\n]*\\n\\s*`[^`]*`:(.*?)(?=\\n## )").matcher(text);
        while (promise.find()) {
            parts.add(new Part("promise " + promise.group(1), promise.group(2)));
        }
        return parts;
    }

    private static String between(String text, String from, String to) {
        return text.substring(text.indexOf(from) + from.length(), text.indexOf(to));
    }

    private void holdAgainstDocument() throws IOException {
        List<Part> parts = readParts();
        c.begin("the document");
        c.due("promises", PROMISES, parts.size() - 1);
        for (Method method : cases) {
            Case its = method.getAnnotation(Case.class);
            for (String words : its.says()) {
                // Words of the promise are not looked for in the terms, where short ones stand often.
                boolean stands = parts.get(its.promise()).mark(words) || parts.get(0).mark(words);
                c.due(method.getName() + " names words that stand there: " + words, true, stands);
            }
        }
        for (Part part : parts) {
            c.due(part.name + ", words that no case names", "", part.missed());
        }
    }

    public static void main(String[] args) throws IOException, IllegalAccessException {
        BoundaryTests tests = new BoundaryTests();
        tests.collect();
        tests.runAll();
        tests.holdAgainstDocument();
        System.out.println(tests.cases.size() + " boundary cases");
        tests.c.close();
    }
}
