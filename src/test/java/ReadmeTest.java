import java.io.File;
import java.io.IOException;
import java.lang.reflect.Method;
import java.lang.reflect.Modifier;
import java.net.URL;
import java.net.URLClassLoader;
import java.nio.file.Files;
import java.nio.file.Path;
import java.util.ArrayList;
import java.util.Arrays;
import java.util.List;
import java.util.Map;
import java.util.TreeMap;
import java.util.TreeSet;
import java.util.regex.Matcher;
import java.util.regex.Pattern;
import java.util.stream.Collectors;
import javax.tools.ToolProvider;

/** README.md: the calls that it shows answer what it says of them; it lists the whole face and names every test. */
public final class ReadmeTest {
    private static final Path README = Path.of("README.md");
    private static final Path TESTS = Path.of("src/test/java");
    private static final int MOST_CALLS = 512;

    private static final String BEGIN = "ViewsJoins x = new ViewsJoins();";
    private static final Pattern CALL =
        Pattern.compile("\\s*((?:int|long) (\\w+) = )?(x\\.(\\w+)\\([^()]*\\)); +// ([^:]+?)(: .+)?");
    private static final Pattern LOOP = Pattern.compile("for \\(int \\w+ = \\d+; \\w+ < \\d+; \\w+\\+\\+\\) \\{|}");
    private static final Pattern ANY_CALL = Pattern.compile("\\bx\\.\\w+\\(");
    private static final Pattern CALL_ROW =
        Pattern.compile("\\| `((?:int|long) (\\w+)\\([^)]*\\))` \\| ([^|]+) \\| ?([^|]*)\\|");
    private static final Pattern CONSTANT_ROW = Pattern.compile("\\| `([A-Z]+)` \\| (-\\d+) \\| [^|]+ \\|");
    private static final Pattern BELOW_0 = Pattern.compile("BAD|FULL|BROKEN|NONE|-\\d+");

    private static final Check check = new Check();
    private static final Map<String, TreeSet<String>> shownBelow0 = new TreeMap<>();
    private static int callsOfBlock = 0;

    public static void main(String[] args) throws Exception {
        List<String> lines = Files.readAllLines(README);
        runCalls(lines);
        tableOfConstants(lines);
        tablesOfCalls(lines);
        namesOfTests(String.join("\n", lines));
        commands(lines);
        check.end();
    }

    /** The blocks call this: it is public as they are loaded by another loader. */
    public static void due(int line, String call, long got, long want) {
        callsOfBlock++;
        check.at("README.md, line " + line);
        check.due(call, got, want);
        check.holds("an object is good for 512 calls", callsOfBlock <= MOST_CALLS);
    }

    public static void begin() {
        callsOfBlock = 0;
    }

    private static void runCalls(List<String> lines) throws Exception {
        Path built = Files.createTempDirectory("readme");
        Path source = built.resolve("ReadmeBlocks.java");
        Files.writeString(source, sourceOfBlocks(lines));
        int failed = ToolProvider.getSystemJavaCompiler().run(null, null, null, "-encoding", "UTF-8",
            "-cp", System.getProperty("java.class.path"), "-d", built.toString(), source.toString());
        check.at("README.md");
        check.holds("the blocks compile", failed == 0);
        if (failed == 0) {
            try (URLClassLoader loader = new URLClassLoader(new URL[] {built.toUri().toURL()})) {
                loader.loadClass("ReadmeBlocks").getMethod("run").invoke(null);
            }
        }
        remove(built);
    }

    /** Each block becomes a block of Java as it stands, with a comparison behind each call. */
    private static String sourceOfBlocks(List<String> lines) {
        StringBuilder out = new StringBuilder("public final class ReadmeBlocks {\n");
        for (String name : List.of("BAD", "FULL", "BROKEN", "NONE")) {
            out.append("static final int " + name + " = ViewsJoins." + name + ";\n");
        }
        out.append("public static void run() {\n");
        boolean inside = false;
        for (int n = 0; n < lines.size(); n++) {
            String line = lines.get(n);
            check.at("README.md, line " + (n + 1));
            if (line.startsWith("```")) {
                out.append(line.equals("```java") ? "{\n" : inside ? "}\n" : "");
                inside = line.equals("```java");
            } else if (inside) {
                out.append(javaOf(line, n + 1));
            } else {
                check.holds("a call stands in a block, with its answer", !ANY_CALL.matcher(line).find());
            }
        }
        return out.append("}\n}\n").toString();
    }

    private static String javaOf(String line, int number) {
        Matcher call = CALL.matcher(line);
        if (!call.matches()) {
            check.holds("a call with its answer, or a loop: " + line,
                line.equals(BEGIN) || LOOP.matcher(line).matches());
            return line.equals(BEGIN) ? line + " ReadmeTest.begin();\n" : line + "\n";
        }
        String answer = call.group(5);
        if (BELOW_0.matcher(answer).matches()) {
            shownBelow0.computeIfAbsent(call.group(4), name -> new TreeSet<>()).add(answer);
        }
        String declared = call.group(1) == null ? "" : call.group(1) + call.group(3) + ";\n";
        String got = call.group(1) == null ? call.group(3) : call.group(2);
        return declared + "ReadmeTest.due(" + number + ", \"" + call.group(3) + "\", " + got + ", " + answer + ");\n";
    }

    private static void tableOfConstants(List<String> lines) throws ReflectiveOperationException {
        check.at("README.md, the answers below 0");
        TreeSet<String> listed = new TreeSet<>();
        for (String line : lines) {
            Matcher row = CONSTANT_ROW.matcher(line);
            if (row.matches()) {
                listed.add(row.group(1));
                check.due(row.group(1), Long.parseLong(row.group(2)), ViewsJoins.class.getField(row.group(1)).getInt(null));
            }
        }
        check.holds("all four: " + listed, listed.equals(new TreeSet<>(List.of("BAD", "FULL", "BROKEN", "NONE"))));
    }

    private static void tablesOfCalls(List<String> lines) {
        check.at("README.md, the calls");
        List<String> listed = new ArrayList<>();
        for (String line : lines) {
            Matcher row = CALL_ROW.matcher(line);
            if (row.matches()) {
                listed.add(row.group(1).replaceAll("(int|long|boolean) \\w+(?=[,)])", "$1"));
                check.holds(row.group(2) + " shows each answer below 0 that its row lists, and no other: "
                    + shownBelow0.get(row.group(2)), below0(row.group(4)).equals(shown(row.group(2))));
            }
        }
        List<String> face = new ArrayList<>();
        for (Method m : ViewsJoins.class.getDeclaredMethods()) {
            if (Modifier.isPublic(m.getModifiers())) {
                face.add(m.getReturnType() + " " + m.getName() + "(" + Arrays.stream(m.getParameterTypes())
                    .map(Class::getName).collect(Collectors.joining(", ")) + ")");
            }
        }
        listed.sort(null);
        face.sort(null);
        check.holds("each method of the face once: " + listed, listed.equals(face));
    }

    private static TreeSet<String> below0(String cell) {
        TreeSet<String> found = new TreeSet<>();
        Matcher one = BELOW_0.matcher(cell);
        while (one.find()) {
            found.add(one.group());
        }
        return found;
    }

    /** The -1 that label() answers is a LABEL, and no refusal. */
    private static TreeSet<String> shown(String method) {
        TreeSet<String> found = new TreeSet<>(shownBelow0.getOrDefault(method, new TreeSet<>()));
        found.remove("-1");
        return found;
    }

    private static void namesOfTests(String readme) {
        check.at("README.md, the tests");
        String[] files = TESTS.toFile().list();
        check.holds("there are tests", files != null);
        for (String file : files == null ? new String[0] : files) {
            check.holds("it names " + file, !file.endsWith("Test.java") || readme.contains(file + "`"));
        }
    }

    /** Those for one test of the project; .ci/run itself, and so what it does with ../shared, is not run from here. */
    private static void commands(List<String> lines) throws IOException, InterruptedException {
        check.at("README.md, the commands");
        Path built = Files.createTempDirectory("readme");
        List<String> block = new ArrayList<>();
        boolean inside = false;
        int run = 0;
        for (String line : lines) {
            if (inside && line.equals("```") && isOfProject(block)) {
                run++;
                check.due(block.toString(), exitCode(block, built), 0);
            }
            if (line.startsWith("```")) {
                inside = line.equals("```sh");
                block.clear();
            } else if (inside) {
                block.add(line);
            }
        }
        check.holds("there is one", run == 1);
        remove(built);
    }

    private static boolean isOfProject(List<String> block) {
        return block.stream().noneMatch(line -> line.contains(".ci/run") || line.contains("../shared"));
    }

    private static int exitCode(List<String> block, Path built) throws IOException, InterruptedException {
        String script = String.join("\n", block).replace(" out ", " '" + built + "' ");
        Process sh = new ProcessBuilder("sh", "-e", "-c", script).redirectErrorStream(true)
            .redirectOutput(ProcessBuilder.Redirect.DISCARD).start();
        return sh.waitFor();
    }

    private static void remove(Path directory) {
        File[] files = directory.toFile().listFiles();
        for (File file : files == null ? new File[0] : files) {
            file.delete();
        }
        directory.toFile().delete();
    }
}
