import java.io.File;
import java.io.IOException;
import java.lang.reflect.Method;
import java.lang.reflect.Modifier;
import java.nio.file.Files;
import java.nio.file.Path;
import java.util.Arrays;
import java.util.Comparator;
import java.util.List;
import java.util.Set;
import java.util.TreeSet;
import java.util.regex.Matcher;
import java.util.regex.Pattern;
import java.util.stream.Collectors;
import java.util.stream.Stream;

/** What README.md says of the class and of its tests must be so: its examples are run on FogShare and on Model. */
public final class ReadmeTest {
    private static final Checks C = new Checks();
    private static final Pattern BLOCK = Pattern.compile("(?s)```java\n(.*?)```");
    private static final Pattern EXAMPLE = Pattern.compile("fog\\.(\\w+)\\((.*)\\); +// (-?\\d+|true|false)(:.*)?");
    private static final Pattern FILE = Pattern.compile("(?<![\\w/.])(?:src|\\.ci|\\.\\./shared)/[\\w./]*\\w");

    private final Path root;
    private final String page;
    private final StringBuilder helpers = new StringBuilder();
    private final StringBuilder calls = new StringBuilder();
    private final Set<String> shown = new TreeSet<>();

    private ReadmeTest(String where) throws IOException {
        root = Path.of(where);
        page = Files.readString(root.resolve("README.md"));
    }

    public static void main(String[] args) throws Exception {
        ReadmeTest test = new ReadmeTest(args.length > 0 ? args[0] : ".");
        test.readExamples();
        test.everyCallIsShown();
        test.runExamples("FogShare");
        test.runExamples("Model");
        test.tables();
        test.files();
        C.end("ReadmeTest");
    }

    private void readExamples() {
        C.about("README, examples");
        Matcher block = BLOCK.matcher(page);
        while (block.find()) {
            if (block.group(1).startsWith("static ")) {
                helpers.append(block.group(1));
            } else {
                block.group(1).lines().forEach(this::readLine);
            }
        }
    }

    private void readLine(String line) {
        Matcher example = EXAMPLE.matcher(line);
        if (example.matches()) {
            String call = "fog." + example.group(1) + "(" + example.group(2) + ")";
            shown.add(example.group(1));
            calls.append("due(\"").append(call).append("\", ").append(call).append(", ").append(example.group(3)).append(");\n");
        } else {
            C.due("a call that stands without its answer: " + line, line.startsWith("fog."), false);
            calls.append(line).append('\n');
        }
    }

    private void everyCallIsShown() {
        C.about("README, each call has an example");
        for (Method method : FogShare.class.getDeclaredMethods()) {
            if (Modifier.isPublic(method.getModifiers())) {
                C.due(method.getName() + " is shown", shown.contains(method.getName()), true);
            }
        }
    }

    /** The examples as a program of its own, compiled and run as a reader would: it tells what is not due. */
    private void runExamples(String type) throws Exception {
        C.about("README, examples on " + type);
        Path dir = Files.createTempDirectory("readme");
        try {
            String source = "public final class Examples {\n"
                + "private static int wrong = 0;\n"
                + "private static void due(String call, Object got, Object want) {\n"
                + "if (!got.equals(want)) { wrong++; System.out.println(call + \" answered \" + got + \", README tells \" + want); } }\n"
                + helpers + "public static void main(String[] args) {\n" + calls + "System.exit(wrong); }\n}\n";
            Files.writeString(dir.resolve("Examples.java"), source.replaceAll("\\bFogShare\\b", type));
            String sources = root.resolve("src/main/java") + File.pathSeparator + root.resolve("src/test/java");
            C.due("javac", run("javac", "-encoding", "UTF-8", "-sourcepath", sources, "-d", dir.toString(),
                dir.resolve("Examples.java").toString()), 0);
            C.due("answers that are not due", run("java", "-cp", dir.toString(), "Examples"), 0);
        } finally {
            remove(dir);
        }
    }

    private static int run(String tool, String... args) throws Exception {
        String[] command = new String[args.length + 1];
        command[0] = Path.of(System.getProperty("java.home"), "bin", tool).toString();
        System.arraycopy(args, 0, command, 1, args.length);
        return new ProcessBuilder(command).inheritIO().start().waitFor();
    }

    private static void remove(Path dir) throws IOException {
        try (Stream<Path> all = Files.walk(dir)) {
            for (Path one : all.sorted(Comparator.reverseOrder()).collect(Collectors.toList())) {
                Files.delete(one);
            }
        }
    }

    /** The names in the first column of the table with this head. */
    private Set<String> firstColumn(String head) {
        Set<String> names = new TreeSet<>();
        int from = page.indexOf(head);
        C.due("there is a table " + head, from >= 0, true);
        List<String> rows = page.substring(Math.max(from, 0)).lines().skip(2).takeWhile(row -> row.startsWith("|"))
            .collect(Collectors.toList());
        for (String row : rows) {
            Matcher name = Pattern.compile("`(\\w+)`").matcher(row.split("\\|")[1]);
            while (name.find()) {
                C.due(name.group(1) + " stands there once", names.add(name.group(1)), true);
            }
        }
        return names;
    }

    private void tables() throws IOException {
        C.about("README, tables");
        Set<String> tests;
        try (Stream<Path> files = Files.list(root.resolve("src/test/java"))) {
            tests = files.map(file -> file.getFileName().toString()).filter(name -> name.endsWith("Test.java"))
                .map(name -> name.replace(".java", "")).collect(Collectors.toCollection(TreeSet::new));
        }
        same("tests", firstColumn("| test |"), tests);
        same("classes", firstColumn("| class |"), Arrays.stream(FogShare.class.getDeclaredClasses()).map(Class::getSimpleName)
            .collect(Collectors.toCollection(TreeSet::new)));
    }

    private static void same(String what, Set<String> told, Set<String> there) {
        C.due(what + " told " + told + ", there are " + there, told.equals(there), true);
    }

    private void files() {
        C.about("README, files");
        Matcher file = FILE.matcher(page);
        while (file.find()) {
            C.due(file.group() + " is there", Files.exists(root.resolve(file.group())), true);
        }
    }
}
