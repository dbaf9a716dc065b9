import java.io.IOException;
import java.lang.reflect.Method;
import java.lang.reflect.Modifier;
import java.net.URL;
import java.net.URLClassLoader;
import java.nio.file.Files;
import java.nio.file.Path;
import java.util.Set;
import java.util.TreeSet;
import java.util.function.BiConsumer;
import java.util.regex.Matcher;
import java.util.regex.Pattern;
import java.util.stream.Collectors;
import java.util.stream.Stream;
import javax.tools.JavaCompiler;
import javax.tools.ToolProvider;

/** README.md: its example is Java and answers as it says; every call and every test is told of. */
public final class ReadmeTest {
    private static final Due due = new Due("ReadmeTest");
    private static final Pattern CALL = Pattern.compile("(x\\.(\\w+)\\(.*\\)); +// (-?\\d+): .+");
    private static final Pattern ROW = Pattern.compile("(?m)^\\| `(\\w+)\\(([\\w, ]*)\\)` \\|");
    private static final Pattern TEST = Pattern.compile("`(\\w+Test)`");

    public static void main(String[] args) throws Exception {
        String page = Files.readString(Path.of("README.md"));
        String example = between(page, "```java\n", "```\n");
        example(example);
        everyCallIsShown(example);
        everyCallHasItsRow(page);
        everyTestIsNamed(page);
        due.finish();
    }

    private static String between(String page, String first, String last) {
        int from = page.indexOf(first);
        int to = page.indexOf(last, from + first.length());
        due.holds("the page has " + first.strip(), from >= 0 && to > from);
        return from >= 0 && to > from ? page.substring(from + first.length(), to) : "";
    }

    /** Each line with an answer becomes one that asks Due; the others stay as they stand. */
    private static void example(String lines) throws Exception {
        StringBuilder code = new StringBuilder("import java.util.function.BiConsumer;\n\nfinal class Shown {\n"
                + "    static void run(BiConsumer<String, long[]> due) {\n");
        for (String line : lines.split("\n")) {
            Matcher m = CALL.matcher(line);
            boolean answers = m.matches();
            due.holds("an answer stands behind " + line, answers == line.startsWith("x."));
            code.append(answers ? "due.accept(\"" + m.group(1) + "\", new long[] {" + m.group(1) + ", " + m.group(3)
                    + "L});" : line).append('\n');
        }
        compileAndRun(code.append("    }\n}\n").toString());
    }

    private static void compileAndRun(String code) throws Exception {
        JavaCompiler compiler = ToolProvider.getSystemJavaCompiler();
        due.holds("there is a compiler", compiler != null);
        if (compiler == null) {
            return;
        }
        Path folder = Files.createTempDirectory("readme");
        Path file = Files.writeString(folder.resolve("Shown.java"), code);
        String path = System.getProperty("java.class.path");
        int failed = compiler.run(null, System.out, System.out, "-cp", path, "-d", folder.toString(), file.toString());
        due.is("the example's compiling", failed, 0);
        if (failed == 0) {
            run(folder);
        }
        for (String name : new String[] {"Shown.class", "Shown.java", ""}) {
            Files.deleteIfExists(folder.resolve(name));
        }
    }

    private static void run(Path folder) throws Exception {
        URL[] there = {folder.toUri().toURL()};
        try (URLClassLoader loader = new URLClassLoader(there)) {
            Method run = loader.loadClass("Shown").getDeclaredMethod("run", BiConsumer.class);
            run.setAccessible(true);
            BiConsumer<String, long[]> ask = (call, both) -> due.is(call, both[0], both[1]);
            run.invoke(null, ask);
        }
    }

    private static Set<String> calls() {
        return Stream.of(VetoHouse.class.getDeclaredMethods())
            .filter(m -> Modifier.isPublic(m.getModifiers()))
            .map(Method::getName).collect(Collectors.toCollection(TreeSet::new));
    }

    private static void everyCallIsShown(String example) {
        for (String name : calls()) {
            due.holds("the example has " + name, example.contains("x." + name + "("));
        }
    }

    /** By name and arguments as the document's face has them. */
    private static void everyCallHasItsRow(String page) throws IOException {
        String source = Files.readString(Path.of("src/main/java/VetoHouse.java"));
        Set<String> told = new TreeSet<>();
        Matcher m = ROW.matcher(page);
        while (m.find()) {
            due.holds("one row for " + m.group(1), told.add(m.group(1)));
            String head = m.group(1) + "(" + m.group(2).replaceAll("(\\w+)", "int $1") + ") {";
            due.holds("the program has " + head, source.contains("    public int " + head)
                    || source.contains("    public long " + head) || source.contains("    public " + head));
        }
        Set<String> wanted = calls();
        wanted.add("VetoHouse");
        due.holds("the rows " + told + " are of " + wanted, told.equals(wanted));
    }

    private static void everyTestIsNamed(String page) throws IOException {
        Set<String> told = new TreeSet<>();
        Matcher m = TEST.matcher(page);
        while (m.find()) {
            told.add(m.group(1));
        }
        Set<String> there;
        try (Stream<Path> files = Files.list(Path.of("src/test/java"))) {
            there = files.map(f -> f.getFileName().toString()).filter(n -> n.endsWith("Test.java"))
                .map(n -> n.substring(0, n.length() - ".java".length())).collect(Collectors.toCollection(TreeSet::new));
        }
        due.holds("the tests " + there + " are those named, " + told, there.equals(told));
    }
}
