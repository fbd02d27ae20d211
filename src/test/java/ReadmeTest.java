import java.io.IOException;
import java.lang.reflect.InvocationTargetException;
import java.lang.reflect.Method;
import java.nio.file.Files;
import java.nio.file.Path;
import java.util.Set;
import java.util.TreeSet;
import java.util.regex.Matcher;
import java.util.regex.Pattern;

/** README.md: its example answers what stands behind each call, its orders are some, all calls and tests are told of. */
public final class ReadmeTest {
    private static final Pattern CALL =
        Pattern.compile("^towns\\.(\\w+)\\(([^)]*)\\);\\s*// (-?\\d+|true|false)\\b.*");

    private ReadmeTest() {
    }

    public static void main(String[] args) throws IOException, ReflectiveOperationException {
        Path source = Path.of(System.getProperty("source", "src/main/java/TownsUnderSail.java"));
        Path home = source.toAbsolutePath().getParent().getParent().getParent().getParent();
        String readme = Files.readString(home.resolve("README.md"));
        example(readme);
        orders(readme);
        callsToldOf(readme);
        testsToldOf(readme, home.resolve("src/test/java"));
        Due.finish();
    }

    private static void example(String readme) throws ReflectiveOperationException {
        TownsUnderSail towns = new TownsUnderSail();
        int calls = 0;
        for (String line : readme.split("\n")) {
            Matcher m = CALL.matcher(line);
            if (m.matches()) {
                calls++;
                Due.is("README: " + line, answer(towns, m.group(1), m.group(2)), number(m.group(3)));
            } else {
                Due.is("README, a call without an answer: " + line, line.startsWith("towns."), false);
            }
        }
        Due.is("README has an example", calls > 0 && calls <= 512, true);
    }

    private static void orders(String readme) {
        int from = readme.indexOf("```text\n");
        int to = readme.indexOf("```", from + 3);
        Due.is("README has orders", from >= 0 && to > from, true);
        if (from >= 0 && to > from) {
            String text = readme.substring(from + 8, to);
            Due.is("README, lines of its orders", Due.tell(new TownsUnderSail(), 0, text), text.split("\n").length);
        }
    }

    private static long answer(TownsUnderSail towns, String name, String told)
        throws IllegalAccessException, InvocationTargetException {
        String[] parts = told.isEmpty() ? new String[0] : told.split(", *");
        for (Method m : TownsUnderSail.class.getMethods()) {
            if (m.getName().equals(name) && m.getParameterCount() == parts.length) {
                Object[] values = new Object[parts.length];
                for (int i = 0; i < parts.length; i++) {
                    boolean isTruth = m.getParameterTypes()[i] == boolean.class;
                    values[i] = isTruth ? (Object) Boolean.valueOf(parts[i]) : (Object) value(parts[i]);
                }
                return number(m.invoke(towns, values).toString());
            }
        }
        Due.is("README: a call of the face: " + name, false, true);
        return 0;
    }

    private static Integer value(String told) {
        return told.equals("NONE") ? Integer.valueOf(TownsUnderSail.NONE) : Integer.decode(told);
    }

    private static long number(String told) {
        if (told.equals("true") || told.equals("false")) {
            return told.equals("true") ? 1 : 0;
        }
        return Long.parseLong(told);
    }

    private static void callsToldOf(String readme) {
        Set<String> names = new TreeSet<>();
        for (Method m : TownsUnderSail.class.getDeclaredMethods()) {
            if (java.lang.reflect.Modifier.isPublic(m.getModifiers())) {
                names.add(m.getName());
            }
        }
        for (String name : names) {
            Due.is("README tells of " + name, readme.contains("| `" + name + "("), true);
        }
    }

    private static void testsToldOf(String readme, Path tests) throws IOException {
        try (java.util.stream.Stream<Path> files = Files.list(tests)) {
            for (Path file : (Iterable<Path>) files::iterator) {
                String name = file.getFileName().toString().replace(".java", "");
                Due.is("README tells of " + name, readme.contains("`" + name), true);
            }
        }
    }
}
