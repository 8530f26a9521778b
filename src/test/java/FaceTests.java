import java.io.IOException;
import java.lang.reflect.Constructor;
import java.lang.reflect.Field;
import java.lang.reflect.Method;
import java.lang.reflect.Modifier;
import java.nio.file.Files;
import java.nio.file.Path;
import java.util.ArrayList;
import java.util.Arrays;
import java.util.HashSet;
import java.util.List;
import java.util.NoSuchElementException;
import java.util.Set;
import java.util.TreeSet;
import java.util.regex.Matcher;
import java.util.regex.Pattern;

/** The face is the document's and no more, and the source keeps to what LANGUAGE.md says and a machine can see. */
public final class FaceTests {
    private static final Path SOURCE = Path.of("src/main/java/RubbedWelds.java");
    private static final Path DOCUMENT = Path.of("../shared/DOC.md");
    private static final Pattern FACE_METHOD = Pattern.compile("    public (\\w+ \\w+)\\((.*)\\)( throws \\w+)?;");
    private static final int PROMISED_METHODS = 31;
    private static final int MOST_PARAMETERS = 7;
    private static final String[] RULED_OUT = {"synchronized", "finally", "assert", "->", "::", "catch", "try", "var",
        "System\\.(?!arraycopy)", "\\w+Exact", "double", "float", "Thread", "Random", "Object", "protected"};

    private final Checker c = new Checker();

    private static String signature(Method m) {
        List<String> types = new ArrayList<>();
        for (Class<?> type : m.getParameterTypes()) {
            types.add(type.getName());
        }
        return m.getReturnType().getName() + " " + m.getName() + "(" + String.join(",", types) + ")";
    }

    /** The methods that the document prints under "The public face", as signatures. */
    private Set<String> promised() throws IOException {
        Set<String> promised = new TreeSet<>();
        for (String line : Files.readString(DOCUMENT).split("\\n")) {
            Matcher method = FACE_METHOD.matcher(line);
            if (method.matches()) {
                promised.add(method.group(1) + "(" + method.group(2).replaceAll(" \\w+(,|$) ?", "$1") + ")");
            }
        }
        c.due("methods in the document", PROMISED_METHODS, promised.size());
        return promised;
    }

    private void methods() throws IOException, NoSuchMethodException {
        Set<String> found = new TreeSet<>();
        Set<String> publicNames = new HashSet<>();
        Set<String> privateNames = new HashSet<>();
        for (Method m : RubbedWelds.class.getDeclaredMethods()) {
            if (Modifier.isPublic(m.getModifiers())) {
                found.add(signature(m));
                publicNames.add(m.getName());
            } else {
                c.due(m.getName() + " is private", true, Modifier.isPrivate(m.getModifiers()));
                parameters(m);
                privateNames.add(m.getName());
            }
        }
        c.due("the methods of the face", promised().toString(), found.toString());
        for (Class<?> inside : RubbedWelds.class.getDeclaredClasses()) {
            for (Method m : inside.getDeclaredMethods()) {
                privateNames.add(m.getName());
                parameters(m);
            }
        }
        for (String name : privateNames) {
            c.due("the name " + name + " is taken once", false, publicNames.contains(name));
        }
        Class<?>[] thrown = RubbedWelds.class.getMethod("told", int.class, int.class).getExceptionTypes();
        c.due("told names its exception", true, Arrays.equals(thrown, new Class<?>[] {NoSuchElementException.class}));
    }

    /** The face's own parameters are the document's, so that rule 11 binds the others. */
    private void parameters(Method m) {
        c.due(m.getName() + " has at most seven parameters", true, m.getParameterCount() <= MOST_PARAMETERS);
    }

    private void rest() {
        c.due("public and final", Modifier.PUBLIC | Modifier.FINAL, RubbedWelds.class.getModifiers());
        Constructor<?>[] made = RubbedWelds.class.getDeclaredConstructors();
        c.due("one constructor", 1, made.length);
        c.due("without parameters", 0, made[0].getParameterCount());
        c.due("that is public", true, Modifier.isPublic(made[0].getModifiers()));
        fields(RubbedWelds.class);
        Class<?>[] classes = RubbedWelds.class.getDeclaredClasses();
        c.due("at most twelve classes", true, classes.length < 12);
        for (Class<?> inside : classes) {
            c.due(inside + " is static", true, Modifier.isStatic(inside.getModifiers()));
            fields(inside);
        }
    }

    private void fields(Class<?> type) {
        int own = 0;
        for (Field field : type.getDeclaredFields()) {
            boolean isStatic = Modifier.isStatic(field.getModifiers());
            c.due(field + " is final, if static", true, !isStatic || Modifier.isFinal(field.getModifiers()));
            boolean isFace = field.getName().equals("NONE");
            c.due(field + " is private", !isFace, Modifier.isPrivate(field.getModifiers()));
            own += isStatic ? 0 : 1;
        }
        c.due(type + " has at most twenty fields", true, own <= 20);
    }

    private void source() throws IOException {
        String text = Files.readString(SOURCE);
        String code = text.replaceAll("(?s)/\\*.*?\\*/", "").replaceAll("//[^\\n]*", "");
        for (String word : RULED_OUT) {
            String pattern = Character.isLetter(word.charAt(0)) ? "\\b" + word + "\\b" : word;
            pattern = word.startsWith("System") ? word : pattern;
            c.due("no " + word, false, Pattern.compile(pattern).matcher(code).find());
        }
        Matcher imports = Pattern.compile("import ([^;]+);").matcher(code);
        while (imports.find()) {
            c.due("import of " + imports.group(1), true, imports.group(1).equals("java.util.NoSuchElementException"));
        }
        c.due("signs 1 to 127 alone", true, text.chars().allMatch(sign -> sign > 0 && sign < 128));
        int line = 0;
        int start = 0;
        for (String row : text.split("\\n")) {
            line++;
            start = row.matches(" {4,8}(public|private) .*\\) .*\\{") ? line : start;
            boolean isEnd = row.matches(" {4,8}\\}");
            c.due("a method of at most sixty lines ends at line " + line, true, !isEnd || line - start < 60);
        }
    }

    public static void main(String[] args) throws Exception {
        FaceTests tests = new FaceTests();
        tests.methods();
        tests.rest();
        tests.source();
        tests.c.close();
    }
}
