import java.io.IOException;
import java.lang.management.ManagementFactory;
import java.lang.reflect.Constructor;
import java.lang.reflect.Field;
import java.lang.reflect.Method;
import java.lang.reflect.Modifier;
import java.nio.file.Files;
import java.nio.file.Path;
import java.util.ArrayList;
import java.util.Arrays;
import java.util.List;
import java.util.TreeSet;
import java.util.regex.Matcher;
import java.util.regex.Pattern;

/** What LANGUAGE.md asks of the class, as far as a test can see it: the face, the words, the sizes, the room. */
public final class RulesTest {
    private static final Path SOURCE = Path.of("src/main/java/ViewsJoins.java");
    private static final List<String> FACE = List.of(
        "int graph(int)", "int arc(int, int, int, long)", "int set(int, int, int, long)",
        "int label(int, int, int)", "int test(int, long, int, int)", "int view(int, int, int, int, int)",
        "int live(int, boolean)", "int told(int, int)", "int end(int, int, int)", "long value(int, int, int)",
        "int up(int, int, int, int)", "int down(int, int, int, int)", "int hidden(int, int, int)",
        "int same(int, int)", "int reach(int, int)", "int ask(int, int, int, int)", "int count(int)",
        "int clear()");
    private static final List<String> FORBIDDEN = List.of("throw", "throws", "try", "catch", "finally",
        "synchronized", "assert", "import", "package", "protected", "native", "volatile", "transient",
        "hashCode", "toString", "equals", "System", "Thread", "Random", "Object", "Exact");

    private static final Check check = new Check();

    public static void main(String[] args) throws IOException {
        face();
        insideClasses();
        words();
        sizes();
        room();
        check.end();
    }

    private static void face() {
        check.at("rule 1, the face");
        Class<?> type = ViewsJoins.class;
        check.holds("public and final", Modifier.isPublic(type.getModifiers()) && Modifier.isFinal(type.getModifiers()));
        TreeSet<String> seen = new TreeSet<>();
        TreeSet<String> names = new TreeSet<>();
        for (Method m : type.getDeclaredMethods()) {
            if (!Modifier.isPrivate(m.getModifiers())) {
                seen.add(text(m));
                names.add(m.getName());
            }
        }
        check.holds("the document's methods and no other: " + seen, seen.equals(new TreeSet<>(FACE)));
        for (Class<?> each : allClasses()) {
            for (Method m : each.getDeclaredMethods()) {
                boolean ofFace = each == type && !Modifier.isPrivate(m.getModifiers());
                check.holds("another method has a public one's name: " + m, ofFace || !names.contains(m.getName()));
                check.holds("at most seven parameters: " + m, m.getParameterCount() <= 7);
            }
        }
        Constructor<?>[] constructors = type.getDeclaredConstructors();
        check.holds("one constructor", constructors.length == 1 && constructors[0].getParameterCount() == 0
            && Modifier.isPublic(constructors[0].getModifiers()));
        TreeSet<String> fields = new TreeSet<>();
        for (Field f : type.getDeclaredFields()) {
            if (!Modifier.isPrivate(f.getModifiers())) {
                fields.add(f.getName());
            }
        }
        check.holds("four public fields: " + fields, fields.equals(new TreeSet<>(List.of("BAD", "FULL", "BROKEN", "NONE"))));
    }

    private static String text(Method m) {
        String types = Arrays.toString(Arrays.stream(m.getParameterTypes()).map(Class::getName).toArray());
        return m.getReturnType().getName() + " " + m.getName() + "(" + types.substring(1, types.length() - 1) + ")";
    }

    private static List<Class<?>> allClasses() {
        List<Class<?>> all = new ArrayList<>(List.of(ViewsJoins.class));
        all.addAll(List.of(ViewsJoins.class.getDeclaredClasses()));
        return all;
    }

    private static void insideClasses() {
        check.at("rules 2, 5 and 11");
        check.holds("at most twelve classes", allClasses().size() <= 12);
        for (Class<?> each : allClasses()) {
            int own = 0;
            for (Field f : each.getDeclaredFields()) {
                boolean isStatic = Modifier.isStatic(f.getModifiers());
                check.holds("static fields are final: " + f, !isStatic || Modifier.isFinal(f.getModifiers()));
                own += isStatic ? 0 : 1;
            }
            check.holds("at most twenty fields: " + each, own <= 20);
            check.holds("static: " + each, each == ViewsJoins.class || Modifier.isStatic(each.getModifiers()));
        }
    }

    private static String withoutComments(String source) {
        return source.replaceAll("(?s)/\\*.*?\\*/", "").replaceAll("//[^\n]*", "");
    }

    private static void words() throws IOException {
        check.at("rules 2, 4 and 6, the words");
        String code = withoutComments(Files.readString(SOURCE));
        for (String word : FORBIDDEN) {
            check.holds("no " + word, !Pattern.compile("\\b" + word + "\\b").matcher(code).find());
        }
        check.holds("no lambda", !code.contains("->"));
        check.holds("no method reference", !code.contains("::"));
        check.holds("no text", !code.contains("\""));
        Matcher library = Pattern.compile("\\b(Math|Long|Integer|Arrays)\\.(\\w+)").matcher(code);
        while (library.find()) {
            check.holds("in the library's list: " + library.group(),
                List.of("max", "min", "abs", "bitCount", "compare").contains(library.group(2)));
        }
    }

    /** A method begins at a line that ends with "{" and ends at the "}" with the same indent. */
    private static void sizes() throws IOException {
        check.at("rule 11, the sizes");
        List<String> lines = Files.readAllLines(SOURCE);
        Pattern head = Pattern.compile("( {4}| {8})[a-z][^=;]*\\) \\{");
        for (int i = 0; i < lines.size(); i++) {
            Matcher m = head.matcher(lines.get(i));
            if (!m.matches() || lines.get(i).contains(" if (") || lines.get(i).contains(" for (")
                    || lines.get(i).contains(" switch (")) {
                continue;
            }
            int end = i;
            while (end < lines.size() && !lines.get(end).equals(m.group(1) + "}")) {
                end++;
            }
            check.holds("at most sixty lines: " + lines.get(i).trim(), end - i < 60);
        }
    }

    /** The dearest object that 512 calls can make, in bytes; a field or element has eight at most. */
    private static void room() {
        check.at("the room");
        com.sun.management.ThreadMXBean threads =
            (com.sun.management.ThreadMXBean) ManagementFactory.getThreadMXBean();
        long id = Thread.currentThread().getId();
        dearRun();
        long before = threads.getThreadAllocatedBytes(id);
        dearRun();
        long used = threads.getThreadAllocatedBytes(id) - before;
        check.holds("bytes of a whole run: " + used, used < 200_000);
    }

    private static void dearRun() {
        ViewsJoins x = new ViewsJoins();
        for (int round = 0; round < 5; round++) {
            x.graph(12);
            for (int e = 0; e < 30; e++) {
                x.arc(0, e % 12, (e + 5) % 12, e);
            }
            x.test(1, 12, 0, 0);
            for (int g = 1; g < 24; g++) {
                x.view(1 + g % 7, 40 % g, g % 2 == 0 ? 0 : 50 % g % 2, 0, 0);
                x.told(g, 5);
            }
            for (int g = 0; g < 24; g++) {
                x.reach(g, 0);
            }
            x.clear();
        }
    }
}
