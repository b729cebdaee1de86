import java.io.IOException;
import java.lang.reflect.Constructor;
import java.lang.reflect.Field;
import java.lang.reflect.Method;
import java.lang.reflect.Modifier;
import java.nio.file.Files;
import java.nio.file.Path;
import java.util.Set;
import java.util.TreeSet;
import java.util.regex.Pattern;

/** What of LANGUAGE.md can be seen from the class and its text; it is run from the project's root. */
public final class LanguageTest {
    private static final Path SOURCE = Path.of("src/main/java/MuffinBells.java");
    private static final Path DOCUMENT = Path.of("../shared/DOC.md");
    private static final int MOST_LINES = 60;

    public static void main(String[] args) throws IOException {
        String code = withoutComments(Files.readString(SOURCE));
        words(code);
        imports(code);
        methodLengths(code);
        face();
        nestedClasses();
        Due.end();
    }

    private static String withoutComments(String source) {
        return source.replaceAll("(?s)/\\*.*?\\*/", "").replaceAll("//[^\n]*", "");
    }

    private static void words(String code) {
        String[] refused = {"\\bthrow\\b", "\\bthrows\\b", "\\btry\\b", "\\bcatch\\b", "\\bsynchronized\\b", "\\bassert\\b",
            "->", "::", "Exact\\b", "\\bhashCode\\b", "\\btoString\\b", "\\bpackage\\b", "\\bRandom\\b", "\\bThread\\b",
            "System\\.(?!arraycopy\\b)", "\\bstatic\\s*\\{", "\\bprotected\\b"};
        for (String word : refused) {
            Due.is("the source has " + word, Pattern.compile(word).matcher(code).find() ? 1 : 0, 0);
        }
    }

    private static void imports(String code) {
        for (String line : code.split("\n")) {
            if (line.startsWith("import ")) {
                Due.is(line, line.equals("import java.util.Arrays;") ? 1 : 0, 1);
            }
        }
    }

    private static void methodLengths(String code) {
        int length = -1;
        for (String line : code.split("\n", -1)) {
            boolean opens = line.matches("( {4}| {8})[a-z].*\\) \\{");
            boolean closes = line.matches("( {4}| {8})\\}");
            length = opens ? 0 : length < 0 ? -1 : length + 1;
            if (closes && length >= 0) {
                Due.is("a method has more than " + MOST_LINES + " lines", length > MOST_LINES ? 1 : 0, 0);
                length = -1;
            }
        }
    }

    private static void face() throws IOException {
        Set<String> due = new TreeSet<>();
        for (String line : Files.readString(DOCUMENT).split("\n")) {
            if (line.matches("    public (int|long) \\w+\\(.*\\);")) {
                due.add(line.replaceAll("    public (\\w+) (\\w+)\\((.*)\\);", "$1 $2($3)").replaceAll(" \\w+(?=[,)])", ""));
            }
        }
        Set<String> has = new TreeSet<>();
        Set<String> names = new TreeSet<>();
        for (Method m : MuffinBells.class.getDeclaredMethods()) {
            if (Modifier.isPublic(m.getModifiers())) {
                has.add(told(m));
                names.add(m.getName());
            }
        }
        Due.is("methods of the document", due.size(), 40 - 1);
        Due.same("the face", has.toString(), due.toString());
        membersArePrivate(names);
        Due.is("public and final", MuffinBells.class.getModifiers(), Modifier.PUBLIC | Modifier.FINAL);
    }

    private static String told(Method m) {
        StringBuilder all = new StringBuilder();
        all.append(m.getReturnType()).append(' ').append(m.getName()).append('(');
        String between = "";
        for (Class<?> c : m.getParameterTypes()) {
            all.append(between).append(c);
            between = ", ";
        }
        return all.append(')').toString();
    }

    private static void membersArePrivate(Set<String> names) {
        for (Method m : MuffinBells.class.getDeclaredMethods()) {
            boolean isPublic = Modifier.isPublic(m.getModifiers());
            Due.is(m + " is public or private", isPublic || Modifier.isPrivate(m.getModifiers()) ? 1 : 0, 1);
            Due.is(m + " bears a public name", !isPublic && names.contains(m.getName()) ? 1 : 0, 0);
        }
        for (Field f : MuffinBells.class.getDeclaredFields()) {
            Due.is(f + " is private", Modifier.isPrivate(f.getModifiers()) ? 1 : 0, 1);
        }
        for (Constructor<?> c : MuffinBells.class.getDeclaredConstructors()) {
            Due.is(c + " has no parameters", c.getParameterCount(), 0);
        }
        for (Class<?> nested : MuffinBells.class.getDeclaredClasses()) {
            for (Method m : nested.getDeclaredMethods()) {
                Due.is(m + " bears a public name", names.contains(m.getName()) ? 1 : 0, 0);
            }
        }
    }

    private static void nestedClasses() {
        Class<?>[] nested = MuffinBells.class.getDeclaredClasses();
        Due.is("at most some twelve classes", nested.length <= 12 ? 1 : 0, 1);
        for (Class<?> c : nested) {
            Due.is(c + " is static", Modifier.isStatic(c.getModifiers()) ? 1 : 0, 1);
        }
        staticsAreFinal(MuffinBells.class);
        for (Class<?> c : nested) {
            staticsAreFinal(c);
        }
    }

    private static void staticsAreFinal(Class<?> c) {
        int own = 0;
        for (Field f : c.getDeclaredFields()) {
            boolean isStatic = Modifier.isStatic(f.getModifiers());
            Due.is(f + " is final", !isStatic || Modifier.isFinal(f.getModifiers()) ? 1 : 0, 1);
            own += isStatic ? 0 : 1;
        }
        Due.is(c + " has some twenty fields at most", own <= 20 ? 1 : 0, 1);
    }
}
