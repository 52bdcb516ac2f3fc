import java.io.IOException;
import java.net.URL;
import java.net.URLClassLoader;
import java.nio.file.Files;
import java.nio.file.Path;
import java.util.ArrayList;
import java.util.Arrays;
import java.util.Comparator;
import java.util.List;
import java.util.Set;
import java.util.TreeSet;
import java.util.function.Supplier;
import java.util.regex.Matcher;
import java.util.regex.Pattern;
import java.util.stream.Collectors;
import java.util.stream.Stream;
import javax.tools.JavaCompiler;
import javax.tools.ToolProvider;

/**
 * README.md: its examples are compiled and run as they stand, each block on its own, and must answer
 * what they tell; the calls, constants and tests that it lists are those that there are. Runs in the
 * project's folder.
 */
public final class ReadmeTest {
    private static final Path README = Path.of("README.md");
    private static final Path DOCUMENT = Path.of("../shared/DOC.md");
    private static final Path TESTS = Path.of("src/test/java");
    private static final int MOST_CALLS = 512;

    private static final Pattern BLOCK = Pattern.compile("(?ms)^```java\\n(.*?)^```$");
    private static final Pattern EXAMPLE = Pattern.compile("(x\\.(\\w+)\\(.*?\\)); +// (-?\\d+|NONE|BAD|NO|FULL)(?:: .+)?");
    /** What needs no answer: an object that is made, and a loop with what stands in it. */
    private static final Pattern PLAIN = Pattern.compile("GaugeBounds x = new GaugeBounds\\(\\);|for \\(.*\\) \\{| {4}x\\.type\\(c\\);|\\}");
    private static final Pattern SCRIPT = Pattern.compile("`\"([^`]*)\"`");
    private static final Pattern FACE_METHOD = Pattern.compile("(?m)^ {4}public (?:int|long) (\\w+)\\(([^)]*)\\);$");
    private static final Pattern FACE_CONSTANT = Pattern.compile("(NONE|BAD|NO|FULL) = (-\\d+)");
    private static final Pattern TAKEN = Pattern.compile("(\\w+) (-?\\d+) \\.\\. (-?\\d+)");
    private static final Pattern TEST_ROW = Pattern.compile("(?m)^\\| (\\w+Test) \\|");

    private final String readme;
    private final String document;
    private final List<String> calls = new ArrayList<>();
    private final List<Long> due = new ArrayList<>();
    private final Set<String> shown = new TreeSet<>();

    private ReadmeTest() throws IOException {
        readme = Files.readString(README);
        document = Files.readString(DOCUMENT);
    }

    public static void main(String[] args) throws IOException, ReflectiveOperationException {
        ReadmeTest test = new ReadmeTest();
        test.examples();
        test.scripts();
        test.callsOfTheDocument();
        test.constants();
        test.tests();
        Check.end("ReadmeTest");
    }

    private void examples() throws IOException, ReflectiveOperationException {
        String source = sourceOfExamples();
        if (Check.anyWrong()) {
            return;
        }
        Path folder = Files.createTempDirectory("readme");
        try {
            List<?> got = answers(folder, source);
            Check.due("answers of the examples", got.size(), due.size());
            for (int at = 0; at < got.size(); at++) {
                Check.due("README.md: " + calls.get(at), (Long) got.get(at), due.get(at));
            }
        } finally {
            remove(folder);
        }
    }

    private String sourceOfExamples() {
        StringBuilder source = new StringBuilder("public final class ReadmeExamples implements java.util.function.Supplier<Object> {\n"
            + "private final java.util.List<Long> got = new java.util.ArrayList<>();\n"
            + "public Object get() {\n");
        Matcher block = BLOCK.matcher(readme);
        while (block.find()) {
            int before = calls.size();
            source.append("{\n");
            for (String line : block.group(1).split("\n")) {
                source.append(statement(line)).append('\n');
            }
            source.append("}\n");
            Check.holds("a block has examples, 512 at most", calls.size() > before && calls.size() - before < MOST_CALLS);
        }
        return source.append("return got;\n}\n}\n").toString();
    }

    private String statement(String line) {
        Matcher example = EXAMPLE.matcher(line);
        if (!example.matches()) {
            Check.holds("README.md tells an answer: " + line, PLAIN.matcher(line).matches());
            return line;
        }
        calls.add(example.group(1));
        shown.add(example.group(2));
        due.add(number(example.group(3)));
        return "got.add((long) " + example.group(1) + ");";
    }

    private static long number(String told) {
        return Character.isLetter(told.charAt(0)) ? Script.number(told) : Long.parseLong(told);
    }

    private static List<?> answers(Path folder, String source) throws IOException, ReflectiveOperationException {
        Path file = Files.writeString(folder.resolve("ReadmeExamples.java"), source);
        JavaCompiler compiler = ToolProvider.getSystemJavaCompiler();
        int exit = compiler.run(null, null, null, "-cp", System.getProperty("java.class.path"), "-d", folder.toString(), file.toString());
        Check.due("compiling the examples", exit, 0);
        if (exit != 0) {
            return List.of();
        }
        try (URLClassLoader loader = new URLClassLoader(new URL[] {folder.toUri().toURL()}, ReadmeTest.class.getClassLoader())) {
            Object examples = loader.loadClass("ReadmeExamples").getConstructor().newInstance();
            return (List<?>) ((Supplier<?>) examples).get();
        }
    }

    private static void remove(Path folder) throws IOException {
        try (Stream<Path> all = Files.walk(folder)) {
            for (Path each : all.sorted(Comparator.reverseOrder()).collect(Collectors.toList())) {
                Files.delete(each);
            }
        }
    }

    /** Rows of calls as the Edge tests have them. */
    private void scripts() {
        Matcher script = SCRIPT.matcher(readme);
        int seen = 0;
        while (script.find()) {
            seen++;
            Script.run("README.md", script.group(1));
        }
        Check.due("rows of calls in README.md", seen, 1);
    }

    /** Each call has a row by the document's names, an example, and takes the numbers that the row tells. */
    private void callsOfTheDocument() {
        Matcher method = FACE_METHOD.matcher(document);
        int seen = 0;
        while (method.find()) {
            seen++;
            String name = method.group(1);
            String parameters = method.group(2).replace("int ", "");
            String head = "| `" + name + "(" + parameters + ")` |";
            List<String> rows = readme.lines().filter(line -> line.startsWith(head)).collect(Collectors.toList());
            Check.due("README.md: rows of " + head, rows.size(), 1);
            Check.holds("README.md: an example of " + name, shown.contains(name));
            for (String row : rows) {
                takes(name, parameters, row.substring(head.length()).split("\\|")[0]);
            }
        }
        Check.due("calls of the document", seen, 22);
    }

    private static void takes(String name, String parameters, String taken) {
        List<String> names = new ArrayList<>();
        List<Integer> least = new ArrayList<>();
        List<Integer> most = new ArrayList<>();
        Matcher number = TAKEN.matcher(taken);
        while (number.find()) {
            names.add(number.group(1));
            least.add(Integer.parseInt(number.group(2)));
            most.add(Integer.parseInt(number.group(3)));
        }
        Check.holds("README.md: the numbers of " + name, String.join(", ", names).equals(parameters));
        for (int at = 0; at < names.size(); at++) {
            bad(name, true, with(least, at, least.get(at) - 1));
            bad(name, true, with(most, at, most.get(at) + 1));
            bad(name, false, with(least, at, least.get(at)));
            bad(name, false, with(most, at, most.get(at)));
        }
        if (least.size() > 0 && least.get(0) < 0) {
            bad(name, taken.contains("(not 0)"), with(most, 0, 0));
        }
    }

    private static int[] with(List<Integer> numbers, int at, int number) {
        int[] all = numbers.stream().mapToInt(n -> n).toArray();
        all[at] = number;
        return all;
    }

    private static void bad(String name, boolean due, int[] numbers) {
        GaugeBounds x = new GaugeBounds();
        x.begins(0, 99999);
        boolean got = Calls.answer(x, name, numbers) == GaugeBounds.BAD;
        Check.holds("README.md: " + name + Arrays.toString(numbers) + (due ? " is BAD" : " is not BAD"), got == due);
    }

    private void constants() {
        Matcher constant = FACE_CONSTANT.matcher(document);
        int seen = 0;
        while (constant.find()) {
            seen++;
            String row = "| `" + constant.group(1) + "` | " + constant.group(2) + " |";
            Check.holds("README.md: " + row, readme.contains(row));
        }
        Check.due("constants of the document", seen, 4);
    }

    private void tests() throws IOException {
        Set<String> listed = new TreeSet<>();
        Matcher row = TEST_ROW.matcher(readme);
        while (row.find()) {
            Check.holds("README.md lists it once: " + row.group(1), listed.add(row.group(1)));
        }
        Set<String> there = new TreeSet<>();
        try (Stream<Path> all = Files.list(TESTS)) {
            all.map(each -> each.getFileName().toString()).filter(each -> each.endsWith("Test.java"))
                .forEach(each -> there.add(each.substring(0, each.length() - ".java".length())));
        }
        Check.holds("README.md lists " + listed + ", there are " + there, listed.equals(there));
    }
}
