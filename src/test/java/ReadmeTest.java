import java.io.ByteArrayOutputStream;
import java.io.IOException;
import java.io.PrintStream;
import java.lang.reflect.Method;
import java.net.URL;
import java.net.URLClassLoader;
import java.nio.charset.StandardCharsets;
import java.nio.file.DirectoryStream;
import java.nio.file.Files;
import java.nio.file.Path;
import java.util.ArrayList;
import java.util.Comparator;
import java.util.List;
import java.util.TreeSet;
import java.util.function.ToLongFunction;
import java.util.regex.Matcher;
import java.util.regex.Pattern;
import java.util.stream.Stream;
import javax.tools.JavaCompiler;
import javax.tools.ToolProvider;

/** README.md: its example is the one in the project and prints what stands there, its calls answer what stands behind them. */
public final class ReadmeTest {
    private static final Path EXAMPLE = Path.of("src/example/java/FirstDesk.java");
    private static final Pattern BLOCK = Pattern.compile("```(\\w+)\n(.*?)```\n", Pattern.DOTALL);
    private static final Pattern ANSWERED = Pattern.compile("(.+); +// (-?\\d+|true|false)(: .*)?");
    private static final Pattern CODE = Pattern.compile("`(\\w+)`");

    private static final List<String> JAVA = new ArrayList<>();
    private static final List<String> TEXT = new ArrayList<>();
    private static final List<String> SHELL = new ArrayList<>();
    private static String readme;

    public static void main(String[] args) throws Exception {
        readme = Files.readString(Path.of("README.md"));
        Matcher block = BLOCK.matcher(readme);
        while (block.find()) {
            List<String> blocks = block.group(1).equals("java") ? JAVA : block.group(1).equals("text") ? TEXT : SHELL;
            blocks.add(block.group(2));
        }
        Desk.due("blocks of Java", JAVA.size() > 1, true);
        Path classes = Files.createTempDirectory("readme");
        try {
            example(classes);
            calls(classes);
        } finally {
            remove(classes);
        }
        pathsOfTheShell();
        needsAnotherAhead();
        nothingThere();
        eachStatus();
        namesEachCall();
        namesEachTest();
        Desk.end();
    }

    private static void remove(Path folder) throws IOException {
        try (Stream<Path> found = Files.walk(folder)) {
            for (Path path : found.sorted(Comparator.reverseOrder()).toList()) {
                Files.delete(path);
            }
        }
    }

    private static void compile(Path classes, Path source) {
        JavaCompiler compiler = ToolProvider.getSystemJavaCompiler();
        String path = System.getProperty("java.class.path") + System.getProperty("path.separator") + classes;
        int failed = compiler.run(null, null, null, "-Xlint:all", "-Werror", "-cp", path, "-d", classes.toString(), source.toString());
        Desk.due(source + " compiles", failed, 0);
    }

    /** Runs a class's main: what it prints. */
    private static String run(Path classes, String name) throws Exception {
        ByteArrayOutputStream printed = new ByteArrayOutputStream();
        PrintStream out = System.out;
        try (URLClassLoader loader = new URLClassLoader(new URL[] {classes.toUri().toURL()})) {
            System.setOut(new PrintStream(printed, true, StandardCharsets.UTF_8));
            loader.loadClass(name).getMethod("main", String[].class).invoke(null, (Object) new String[0]);
        } finally {
            System.setOut(out);
        }
        return printed.toString(StandardCharsets.UTF_8).replace("\r\n", "\n");
    }

    private static void example(Path classes) throws Exception {
        Desk.due("the example is that of the project", JAVA.get(0).equals(Files.readString(EXAMPLE)), true);
        compile(classes, EXAMPLE);
        String printed = run(classes, "FirstDesk");
        Desk.due("the example prints what stands there, not: " + printed, printed.equals(TEXT.get(0)), true);
        Desk.due("the text stands behind the example", readme.indexOf(TEXT.get(0)) > readme.indexOf(JAVA.get(0)), true);
    }

    /** All other blocks of Java, one behind the other, each call compared with the answer behind it. */
    private static void calls(Path classes) throws Exception {
        StringBuilder source = new StringBuilder("public final class Snippets {\n"
                + "    private static int compared = 0;\n"
                + "    private static void due(String call, long got, long due) {\n"
                + "        compared++;\n"
                + "        if (got != due) {\n"
                + "            System.out.println(call + \" answers \" + got);\n"
                + "        }\n"
                + "    }\n"
                + "    private static void due(String call, boolean got, boolean due) {\n"
                + "        due(call, got ? 1 : 0, due ? 1 : 0);\n"
                + "    }\n"
                + "    public static void main(String[] args) {\n");
        int answers = 0;
        for (String block : JAVA.subList(1, JAVA.size())) {
            for (String line : block.split("\n")) {
                Matcher answered = ANSWERED.matcher(line);
                boolean isCompared = answered.matches();
                answers += isCompared ? 1 : 0;
                source.append(isCompared ? compared(line, answered.group(1), answered.group(2)) : line).append('\n');
                boolean isCall = line.startsWith("desk.");
                Desk.due("an answer stands behind " + line, isCall, isCompared);
            }
        }
        source.append("        System.out.println(compared);\n    }\n}\n");
        Desk.due("calls with answers: " + answers, answers > 100 && answers < 512, true);
        Path file = classes.resolve("Snippets.java");
        Files.writeString(file, source);
        compile(classes, file);
        String printed = run(classes, "Snippets").trim();
        Desk.due("calls that answer something else: " + printed, printed.equals(String.valueOf(answers)), true);
    }

    private static String compared(String line, String call, String answer) {
        String shown = line.replace("\\", "\\\\").replace("\"", "\\\"");
        return "        due(\"" + shown + "\", " + call + ", " + answer + ");";
    }

    private static void pathsOfTheShell() {
        int found = 0;
        for (String block : SHELL) {
            for (String word : block.split("\\s+")) {
                if (word.endsWith(".java")) {
                    found++;
                    Desk.due(word + " is there", Files.exists(Path.of(word)), true);
                }
            }
        }
        Desk.due("paths in the shell's blocks", found > 0, true);
        Desk.due("the script of the tests is there", readme.contains("    bash .ci/run\n") && Files.exists(Path.of(".ci/run")), true);
    }

    /** The rows of a table, from its head on, without it. */
    private static List<String> table(String head) {
        List<String> rows = new ArrayList<>();
        int at = readme.indexOf(head + "\n");
        Desk.due("there is a table " + head, at >= 0, true);
        String[] lines = readme.substring(Math.max(at, 0)).split("\n");
        for (int i = 2; i < lines.length && lines[i].startsWith("|"); i++) {
            rows.add(lines[i]);
        }
        return rows;
    }

    private static List<String> names(String text) {
        List<String> names = new ArrayList<>();
        Matcher code = CODE.matcher(text);
        while (code.find()) {
            names.add(code.group(1));
        }
        return names;
    }

    private static Method callNamed(String name) {
        for (Method call : BoreDesk.class.getMethods()) {
            if (call.getName().equals(name) && call.getDeclaringClass() == BoreDesk.class) {
                return call;
            }
        }
        return null;
    }

    /** What a call answers with all arguments alike. */
    private static Object answer(BoreDesk desk, Method call, int argument) throws ReflectiveOperationException {
        Object[] arguments = new Object[call.getParameterCount()];
        for (int i = 0; i < arguments.length; i++) {
            if (call.getParameterTypes()[i] == long.class) {
                arguments[i] = (long) argument;
            } else {
                arguments[i] = argument;
            }
        }
        return call.invoke(desk, arguments);
    }

    private static void needsAnotherAhead() throws ReflectiveOperationException {
        int calls = 0;
        for (String row : table("| call | needs ahead of it |")) {
            for (String name : names(row.split("\\|")[1])) {
                Method call = callNamed(name);
                Desk.due("there is a call " + name, call != null, true);
                for (int argument = 0; argument <= 1 && call != null; argument++) {
                    calls++;
                    BoreDesk desk = new BoreDesk();
                    Object answer = answer(desk, call, argument);
                    if (name.equals("top") || name.equals("bottom")) {
                        Desk.due(name, (Long) answer, name.equals("top") ? 0 : 1);
                    } else {
                        Desk.due(name + " is refused", answer.equals(false) || ((Number) (answer instanceof Number ? answer : 0)).longValue() == -1, true);
                        Desk.due(name + " has a STATUS", desk.status() != 0, true);
                    }
                }
            }
        }
        Desk.due("calls that need another ahead: " + calls, calls > 80, true);
    }

    private static void nothingThere() {
        Desk.due("said of a new desk", readme.contains("`told`, `beds` and `treeCost` answer 0 where there is nothing."), true);
        BoreDesk desk = new BoreDesk();
        for (int what = 0; what <= 3; what++) {
            Desk.due(desk, "told", desk.told(what), 0, 0);
        }
        Desk.due(desk, "beds", desk.beds(), 0, 0);
        Desk.due(desk, "treeCost", desk.treeCost(), 0, 0);
    }

    /** The rows of the table of STATUS, each with calls that have it. */
    private static void eachStatus() {
        status("| 0 | done | |", 0, desk -> desk.told(1));
        status("| 1 | a number that can't be; no such tray, rock, hole, layer, triangle, fault, bed | `told(4)`, `match(0, 0)` |", 1,
                desk -> desk.told(4), desk -> desk.match(0, 0));
        status("| 2 | the tray is missing | `read(3, 0)` ahead of `tray(3, ..)` |", 2, desk -> desk.read(3, 0));
        status("| 3 | a place that the tray has not, or too few numbers | `read(0, 60)` |", 3,
                desk -> desk.read(0, 60), desk -> desk.tray(3, 3, 60) ? desk.read(3, 60) : 0, desk -> desk.runs(0, 60));
        status("| 4 | one too many | a 13th layer by `lay`, a fourth `mark` |", 4, ReadmeTest::layA13th,
                desk -> desk.mark() == 3 ? desk.mark() : 0);
        status("| 5 | a number in a tray that can't be | `agrees` of a log with a number that is no rock |", 5,
                desk -> desk.agrees(1, 3, 0));
        status("| 6 | there is none such | `pairOf` of a layer that is left out |", 6, ReadmeTest::leftOut);
        status("| 7 | it can't be | `volume` in a triangle across a fault |", 7, desk -> desk.volume(0, 1) ? 0 : -1);
        status("| 8 | trays are of unlike sorts | `pour` from 8 bits to 64 |", 8, desk -> desk.pour(0, 0, 1, 0, 1) ? 0 : -1);
        status("| 9 | a fault of a text | `field`, `years` |", 9, desk -> desk.field(40), desk -> desk.years(40));
    }

    private static long layA13th(BoreDesk desk) {
        for (int layer = desk.hole(0, 2); layer < 12; layer++) {
            desk.lay(0, layer % 2, 1);
        }
        return desk.lay(0, 2, 1);
    }

    private static long leftOut(BoreDesk desk) {
        desk.field(0);
        Desk.field(desk, Picture.FIELD);
        return desk.match(0, 1) == 8 ? desk.pairOf(1) : 0;
    }

    @SafeVarargs
    private static void status(String row, int status, ToLongFunction<BoreDesk>... calls) {
        Desk.due("a row of README.md: " + row, table("| STATUS | means | as in |").contains(row), true);
        for (ToLongFunction<BoreDesk> call : calls) {
            BoreDesk desk = Picture.full();
            long answer = call.applyAsLong(desk);
            Desk.due(desk, row, answer < 0, status != 0, status);
        }
    }

    private static void namesEachCall() {
        String words = readme.substring(readme.indexOf("## What is called in which order"), readme.indexOf("## How to run its tests"));
        for (Method call : BoreDesk.class.getDeclaredMethods()) {
            if (java.lang.reflect.Modifier.isPublic(call.getModifiers())) {
                Desk.due("README.md shows an answer of " + call.getName(), words.contains("\ndesk." + call.getName() + "("), true);
            }
        }
    }

    private static void namesEachTest() throws IOException {
        TreeSet<String> due = new TreeSet<>();
        try (DirectoryStream<Path> tests = Files.newDirectoryStream(Path.of("src/test/java"), "*Test.java")) {
            for (Path test : tests) {
                due.add(test.getFileName().toString().replace(".java", ""));
            }
        }
        TreeSet<String> got = new TreeSet<>();
        for (String row : table("| test | what it tells |")) {
            got.add(names(row).get(0));
        }
        Desk.due("tests in the table: " + got + ", those there are: " + due, got.equals(due), true);
    }
}
