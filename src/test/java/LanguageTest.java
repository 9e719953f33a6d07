import java.io.IOException;
import java.lang.reflect.Constructor;
import java.lang.reflect.Field;
import java.lang.reflect.Method;
import java.lang.reflect.Modifier;
import java.nio.file.Files;
import java.nio.file.Path;
import java.util.List;
import java.util.Set;
import java.util.TreeSet;
import java.util.regex.Matcher;
import java.util.regex.Pattern;

/** What of LANGUAGE.md can be seen by looking at the file and at the classes made of it. */
public final class LanguageTest {
    private static final Due due = new Due("LanguageTest");
    private static final Path FILE = Path.of("src/main/java/KinkStreet.java");

    public static void main(String[] args) throws IOException {
        String text = Files.readString(FILE);
        String code = text.replaceAll("(?s)/\\*.*?\\*/", "").replaceAll("//[^\n]*", "");
        face();
        names();
        words(code);
        methodLengths(text);
        due.end();
    }

    private static void face() {
        Set<String> methods = new TreeSet<>();
        for (Method m : KinkStreet.class.getDeclaredMethods()) {
            if (!Modifier.isPrivate(m.getModifiers()) && !m.isSynthetic()) {
                due.holds(m + " is public and not static", Modifier.isPublic(m.getModifiers()) && !Modifier.isStatic(m.getModifiers()));
                methods.add(m.getName() + m.getParameterCount());
            }
        }
        due.is("public methods", methods.size(), 37);
        Set<String> constants = new TreeSet<>();
        for (Field f : KinkStreet.class.getDeclaredFields()) {
            if (!Modifier.isPrivate(f.getModifiers()) && !f.isSynthetic()) {
                constants.add(f.getName());
            }
        }
        due.holds("constants: " + constants, constants.equals(Set.of("BAD", "NOT", "FULL", "BIG", "STATE", "VOID")));
        Constructor<?>[] constructors = KinkStreet.class.getConstructors();
        due.holds("one constructor without parameters", constructors.length == 1 && constructors[0].getParameterCount() == 0);
        due.holds("final", Modifier.isFinal(KinkStreet.class.getModifiers()));
    }

    private static void names() {
        Set<String> open = new TreeSet<>();
        for (Method m : KinkStreet.class.getDeclaredMethods()) {
            if (Modifier.isPublic(m.getModifiers())) {
                open.add(m.getName());
            }
        }
        Class<?>[] classes = KinkStreet.class.getDeclaredClasses();
        due.holds("some twelve classes", classes.length <= 12);
        for (Class<?> c : classes) {
            due.holds(c + " is private and static", Modifier.isPrivate(c.getModifiers()) && Modifier.isStatic(c.getModifiers()));
            for (Method m : c.getDeclaredMethods()) {
                due.holds(m + " has a name of its own", !open.contains(m.getName()));
            }
        }
        for (Class<?> c : withOuter(classes)) {
            int fields = 0;
            for (Field f : c.getDeclaredFields()) {
                boolean isStatic = Modifier.isStatic(f.getModifiers());
                due.holds(f + ": static fields are final", !isStatic || Modifier.isFinal(f.getModifiers()));
                fields += isStatic ? 0 : 1;
            }
            due.holds(c + " has some twenty fields", fields <= 20);
            for (Method m : c.getDeclaredMethods()) {
                due.holds(m + " has seven parameters at most", m.getParameterCount() <= 7);
            }
        }
    }

    private static List<Class<?>> withOuter(Class<?>[] classes) {
        List<Class<?>> all = new java.util.ArrayList<>(List.of(classes));
        all.add(KinkStreet.class);
        return all;
    }

    private static void words(String code) {
        for (String word : List.of("throw", "throws", "try", "catch", "synchronized", "assert", "import", "package", "protected",
            "volatile", "transient", "native", "var", "yield", "Object", "Thread", "Exception", "hashCode", "equals", "toString")) {
            due.holds("no " + word, !Pattern.compile("\\b" + word + "\\b").matcher(code).find());
        }
        for (String sign : List.of("->", "::", "\"", "@", "Exact", "new int[n", "Double", "Float", "[][][]")) {
            due.holds("no " + sign, !code.contains(sign));
        }
        due.holds("signs 1 to 127", code.chars().allMatch(c -> c > 0 && c < 128));
    }

    /** Methods begin at a line that ends with an opening brace and hold till the brace at the same depth. */
    private static void methodLengths(String text) {
        String[] lines = text.split("\n");
        Pattern head = Pattern.compile("^( {4}| {8})(?!.*\\bclass\\b)\\S.*\\) \\{$");
        int methods = 0;
        for (int i = 0; i < lines.length; i++) {
            Matcher m = head.matcher(lines[i]);
            if (m.matches()) {
                int end = i;
                while (!lines[end].equals(m.group(1) + "}")) {
                    end++;
                }
                due.holds(lines[i].trim() + " is short", end - i < 60);
                methods++;
            }
        }
        due.holds("methods were found", methods > 100);
    }
}
