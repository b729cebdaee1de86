import java.io.IOException;
import java.lang.reflect.Method;
import java.lang.reflect.Modifier;
import java.nio.file.DirectoryStream;
import java.nio.file.Files;
import java.nio.file.Path;
import java.util.regex.Matcher;
import java.util.regex.Pattern;

/** What README.md says that calls answer, they answer, and it names each call and each test; run from the root. */
public final class ReadmeTest {
    private static final Path README = Path.of("README.md");
    private static final Path TESTS = Path.of("src/test/java");
    private static final Pattern CALL = Pattern.compile("x\\.(\\w+)\\((.*)\\); +// (-?\\d+)(:.*)?");

    public static void main(String[] args) throws IOException, ReflectiveOperationException {
        String readme = Files.readString(README);
        exampleIsTrue(readme);
        eachCallIsNamed(readme);
        eachTestIsNamed(readme);
        textIsOne(readme);
        Due.end();
    }

    private static void exampleIsTrue(String readme) throws ReflectiveOperationException {
        MuffinBells x = new MuffinBells();
        int calls = 0;
        for (String line : readme.split("\n")) {
            Matcher call = CALL.matcher(line);
            if (call.matches()) {
                calls++;
                Due.is(line, answer(x, call.group(1), call.group(2)), Long.parseLong(call.group(3)));
            } else {
                Due.is("a call without its answer: " + line, line.startsWith("x.") ? 1 : 0, 0);
            }
        }
        Due.is("README.md shows calls", calls > 0 ? 1 : 0, 1);
    }

    private static long answer(MuffinBells x, String name, String numbers) throws ReflectiveOperationException {
        String[] told = numbers.isEmpty() ? new String[0] : numbers.split(", ");
        for (Method m : MuffinBells.class.getMethods()) {
            if (m.getName().equals(name) && m.getDeclaringClass() == MuffinBells.class) {
                Object[] v = new Object[told.length];
                for (int i = 0; i < v.length; i++) {
                    boolean isLong = m.getParameterTypes()[i] == long.class;
                    v[i] = isLong ? (Object) Long.decode(told[i]) : (Object) Integer.decode(told[i]);
                }
                return ((Number) m.invoke(x, v)).longValue();
            }
        }
        throw new IllegalStateException("no call " + name);
    }

    /** In the table of the calls, with as many numbers as it has. */
    private static void eachCallIsNamed(String readme) {
        for (Method m : MuffinBells.class.getDeclaredMethods()) {
            if (Modifier.isPublic(m.getModifiers())) {
                int n = m.getParameterCount();
                String numbers = n == 0 ? "" : "\\w+(, \\w+){" + (n - 1) + "}";
                boolean isNamed = Pattern.compile("`" + m.getName() + "\\(" + numbers + "\\)`").matcher(readme).find();
                Due.is("README.md names " + m.getName(), isNamed ? 1 : 0, 1);
            }
        }
    }

    private static void eachTestIsNamed(String readme) throws IOException {
        try (DirectoryStream<Path> tests = Files.newDirectoryStream(TESTS, "*Test.java")) {
            for (Path test : tests) {
                String name = test.getFileName().toString().replace(".java", "");
                Due.is("README.md names " + name, readme.contains("| " + name + " |") ? 1 : 0, 1);
            }
        }
    }

    private static void textIsOne(String readme) {
        Matcher text = Pattern.compile("    (lent 7 .*)\n").matcher(readme);
        Due.is("README.md shows a text", text.find() ? 1 : 0, 1);
        MuffinBells x = new MuffinBells();
        Due.is("terrace() of it", Due.terrace(x, text.group(1)), text.group(1).split(";").length);
    }
}
