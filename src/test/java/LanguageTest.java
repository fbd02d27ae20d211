import java.io.IOException;
import java.lang.reflect.Field;
import java.lang.reflect.Method;
import java.lang.reflect.Modifier;
import java.nio.file.Files;
import java.nio.file.Path;
import java.util.Arrays;
import java.util.List;
import java.util.Set;
import java.util.TreeSet;
import java.util.regex.Matcher;
import java.util.regex.Pattern;

/** Those rules of LANGUAGE.md that can be seen from outside: the face, forbidden words, sizes, what calls make. */
public final class LanguageTest {
    private static final String[] FACE = {
        "int state(int)", "boolean plain(int,int)", "boolean crust(int,int,int)", "boolean well(int,int,boolean)",
        "boolean wind(int,int,int,int)", "int village(int,int,int,int,int)", "boolean set(int,int,int)",
        "int rope(int,int,int)", "int feed(int,int,int,int,int)", "boolean end(int)", "int text(int)", "int fault(int)",
        "int hours(int)", "int of(int,int)", "int met(int,int)", "int tie(int,int)", "int at(int,int,int)",
        "int soon(int,int,int)", "int meeting(int,int)", "int market(int,int)", "long odds(int,int,int,int)",
        "boolean seen(int,int,int,int)", "int places(int,int,int)", "boolean undo()", "boolean image(boolean)",
        "int look(int)"};
    private static final String[] FORBIDDEN = {"\\bthrow\\b", "\\btry\\b", "\\bcatch\\b", "\\bsynchronized\\b",
        "\\bassert\\b", "->", "::", "Exact\\b", "\\bObject\\b", "\\bvar\\b", "\\bSystem\\.(?!arraycopy)", "\\bException\\b",
        "\\bprotected\\b", "\\bvolatile\\b", "\\btransient\\b", "\\bString\\.", "\\bfloat\\b", "\\bdouble\\b",
        "\\bimport (?!java\\.util\\.Arrays;)", "\\bwhile\\b"};

    private LanguageTest() {
    }

    public static void main(String[] args) throws IOException {
        face();
        classes();
        Path source = Path.of(System.getProperty("source", "src/main/java/TownsUnderSail.java"));
        words(Files.readString(source));
        methodSizes(Files.readAllLines(source));
        whatCallsMake();
        Due.finish();
    }

    private static void face() {
        Set<String> publicOnes = new TreeSet<>();
        Set<String> names = new TreeSet<>();
        Class<?> main = TownsUnderSail.class;
        Due.is("public and final", main.getModifiers() & (Modifier.PUBLIC | Modifier.FINAL), Modifier.PUBLIC | Modifier.FINAL);
        Due.is("constructors", main.getDeclaredConstructors().length, 1);
        for (Method m : main.getDeclaredMethods()) {
            if (Modifier.isPublic(m.getModifiers())) {
                StringBuilder b = new StringBuilder();
                for (Class<?> p : m.getParameterTypes()) {
                    b.append(b.length() > 0 ? "," : "").append(p.getSimpleName());
                }
                publicOnes.add(m.getReturnType().getSimpleName() + " " + m.getName() + "(" + b + ")");
                names.add(m.getName());
            } else {
                Due.is("private: " + m.getName(), Modifier.isPrivate(m.getModifiers()), true);
            }
        }
        Due.is("the face " + publicOnes, publicOnes.equals(new TreeSet<>(List.of(FACE))), true);
        for (Method m : allMethods()) {
            boolean isFace = m.getDeclaringClass() == main && Modifier.isPublic(m.getModifiers());
            Due.is("bears a public one's name: " + m, !isFace && names.contains(m.getName()), false);
            Due.is("seven parameters: " + m, m.getParameterCount() <= 7, true);
        }
        for (Field f : main.getDeclaredFields()) {
            boolean isConstant = f.getName().equals("NONE") && Modifier.isPublic(f.getModifiers());
            Due.is("private: " + f, isConstant || Modifier.isPrivate(f.getModifiers()), true);
        }
    }

    private static List<Method> allMethods() {
        List<Method> all = new java.util.ArrayList<>(Arrays.asList(TownsUnderSail.class.getDeclaredMethods()));
        for (Class<?> c : TownsUnderSail.class.getDeclaredClasses()) {
            all.addAll(Arrays.asList(c.getDeclaredMethods()));
        }
        return all;
    }

    private static void classes() {
        Class<?>[] inside = TownsUnderSail.class.getDeclaredClasses();
        Due.is("twelve classes", inside.length + 1 <= 12, true);
        fieldsOf(TownsUnderSail.class);
        for (Class<?> c : inside) {
            Due.is("static: " + c, Modifier.isStatic(c.getModifiers()), true);
            Due.is("not public: " + c, Modifier.isPublic(c.getModifiers()), false);
            Due.is("no class further inside: " + c, c.getDeclaredClasses().length, 0);
            fieldsOf(c);
        }
    }

    private static void fieldsOf(Class<?> c) {
        int count = 0;
        for (Field f : c.getDeclaredFields()) {
            if (Modifier.isStatic(f.getModifiers())) {
                Due.is("final: " + f, Modifier.isFinal(f.getModifiers()), true);
            } else {
                count++;
            }
        }
        Due.is("twenty fields: " + c, count <= 20, true);
    }

    private static void words(String source) {
        String code = source.replaceAll("(?s)/\\*.*?\\*/", "").replaceAll("//[^\n]*", "").replaceAll("\"[^\"\n]*\"", "\"\"");
        for (String word : FORBIDDEN) {
            Matcher m = Pattern.compile(word).matcher(code);
            Due.is("forbidden: " + word, m.find(), false);
        }
        for (int i = 0; i < source.length(); i++) {
            if (source.charAt(i) > 126) {
                Due.is("a sign of the source", source.charAt(i), '?');
            }
        }
    }

    private static void methodSizes(List<String> lines) {
        int from = -1;
        for (int i = 0; i < lines.size(); i++) {
            String line = lines.get(i);
            if (line.matches(" {4,8}[a-zA-Z].*\\).*\\{") || line.matches(" {4,8}[a-zA-Z].*\\([^)]*")) {
                from = i;
            }
            if (from >= 0 && line.matches(" {4,8}\\}")) {
                Due.is("sixty lines: " + lines.get(from).trim(), i - from + 1 <= 60, true);
                from = -1;
            }
        }
    }

    /** Calls make nothing at all: every row is made with the object and used again. */
    private static void whatCallsMake() {
        com.sun.management.ThreadMXBean threads =
            (com.sun.management.ThreadMXBean) java.lang.management.ManagementFactory.getThreadMXBean();
        long me = Thread.currentThread().getId();
        int sum = 0;
        long before = threads.getThreadAllocatedBytes(me);
        TownsUnderSail t = new TownsUnderSail();
        long made = threads.getThreadAllocatedBytes(me) - before;
        Due.is("bytes of a new object: " + made, made < 80000, true);
        sum += everything(t);
        TownsUnderSail[] more = new TownsUnderSail[20];
        for (int i = 0; i < more.length; i++) {
            more[i] = new TownsUnderSail();
        }
        before = threads.getThreadAllocatedBytes(me);
        for (TownsUnderSail one : more) {
            sum += everything(one);
        }
        made = threads.getThreadAllocatedBytes(me) - before;
        Due.is("bytes that calls made: " + made, made < 4096, true);
        Due.is("something was asked", sum != 0, true);
    }

    private static int everything(TownsUnderSail t) {
        t.plain(12, 12);
        t.feed(0x7361696c, 0x20776865, 0x6e20783c, 0x393b2020, 0x20202020);
        int sum = t.text(0) + t.fault(0) + t.state(5);
        for (int h = 0; h < 24; h++) {
            t.wind(h, h % 8, 3, h % 11);
        }
        for (int i = 0; i < 10; i++) {
            t.village(i, i, i, 3, i % 4);
        }
        t.rope(0, 1, 3);
        t.crust(3, 3, 1);
        t.well(4, 4, true);
        t.set(3, 0, 4);
        t.seen(0, 1, 1, 1);
        t.image(true);
        sum += t.hours(240) + t.of(0, 0) + t.met(0, 1) + t.tie(0, 3) + t.at(1, 1, 0) + t.look(2);
        t.undo();
        t.image(false);
        sum += t.soon(0, 11, 11) + t.meeting(0, 9) + t.market(24, 1) + t.places(0, 24, -1);
        return sum + (int) t.odds(0, 5, 5, 12);
    }
}
