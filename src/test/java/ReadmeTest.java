import java.io.File;
import java.io.IOException;
import java.lang.reflect.Method;
import java.lang.reflect.Modifier;
import java.net.URL;
import java.net.URLClassLoader;
import java.nio.file.Files;
import java.nio.file.Path;
import java.util.ArrayList;
import java.util.HashMap;
import java.util.HashSet;
import java.util.List;
import java.util.Map;
import java.util.Set;
import java.util.TreeSet;
import java.util.function.Consumer;
import java.util.function.IntConsumer;
import java.util.regex.Matcher;
import java.util.regex.Pattern;
import javax.tools.JavaCompiler;
import javax.tools.ToolProvider;

/**
 * What README.md says is true of the class: its tables name every call and what it throws, its
 * limits are those that the class keeps to, and its examples compile and answer what stands there.
 */
final class ReadmeTest {
    private static final Path README = Path.of("README.md");
    private static final Path TESTS = Path.of("src/test/java");

    private static final Pattern THROWN = Pattern.compile("`(\\w+Exception)`");
    /** A line of an example: a statement, what is due, and at times an explanation. */
    private static final Pattern ASKED = Pattern.compile("(.*);\\s*// (.*?)(?: \\(.*\\))?");
    private static final Pattern NAMED = Pattern.compile("\\w+ (\\w+) = .*");

    private final List<String> lines;

    private ReadmeTest(List<String> lines) {
        this.lines = lines;
    }

    public static void main(String[] args) throws Exception {
        ReadmeTest readme = new ReadmeTest(Files.readAllLines(README));
        readme.tablesTellTheFace();
        readme.limitsHold();
        readme.examplesAnswer();
        readme.testsAreNamed();
        Check.end();
    }

    // ---- tables

    private void tablesTellTheFace() {
        Set<String> due = new TreeSet<>(Set.of("SpecBoard() throws []"));
        for (Method method : SpecBoard.class.getDeclaredMethods()) {
            if (Modifier.isPublic(method.getModifiers())) {
                due.add(FaceTest.textOf(method));
            }
        }
        Set<String> told = new TreeSet<>();
        for (String[] row : rows()) {
            if (row[0].endsWith(")`")) {
                told.add(withoutNames(row[0].replace("`", "")) + " throws " + thrownIn(row[2]));
                Check.yes(row[0] + " is told", !row[1].isEmpty());
                Check.same(row[0] + " throws nothing", thrownIn(row[2]).isEmpty(), row[2].equals("nothing"));
            }
        }
        Check.same("the calls of README.md", due, told);
    }

    /** The cells of all rows of three cells. */
    private List<String[]> rows() {
        List<String[]> rows = new ArrayList<>();
        for (String line : lines) {
            if (line.startsWith("| ") && line.endsWith(" |")) {
                String[] cells = line.substring(2, line.length() - 2).split(" \\| ");
                Check.same("the cells of " + line, 3, cells.length);
                rows.add(cells);
            }
        }
        return rows;
    }

    private static String withoutNames(String signature) {
        int open = signature.indexOf('(');
        return signature.substring(0, open)
            + signature.substring(open).replaceAll("(\\w+) \\w+", "$1").replace(" ", "");
    }

    private static List<String> thrownIn(String cell) {
        List<String> names = new ArrayList<>();
        Matcher matcher = THROWN.matcher(cell);
        while (matcher.find()) {
            names.add(matcher.group(1));
        }
        return names;
    }

    // ---- limits

    private void limitsHold() {
        Map<String, IntConsumer> ways = waysToTry();
        for (String[] row : rows()) {
            if (!row[0].endsWith("`") && row[1].matches("\\d+")) {
                IntConsumer way = ways.remove(row[0]);
                Check.yes("a limit that is known: " + row[0], way != null);
                if (way != null) {
                    limitHolds(row[0], Integer.parseInt(row[1]), Integer.parseInt(row[2]), way);
                }
            }
        }
        Check.same("limits that README.md leaves out", Set.of(), ways.keySet());
    }

    /** Each makes a book with this number of a thing, or throws. */
    private static Map<String, IntConsumer> waysToTry() {
        Map<String, IntConsumer> ways = new HashMap<>();
        ways.put("wishes", n -> Books.withWishes(n));
        ways.put("letters of a name, each from 'a' to 'z'",
            n -> Books.wish(new SpecBoard(), "z".repeat(n), 1, 1));
        ways.put("cost of a wish", n -> Books.wish(new SpecBoard(), "a", n, 1));
        ways.put("value of a wish", n -> Books.wish(new SpecBoard(), "a", 1, n));
        ways.put("tests", n -> times(n, new SpecBoard(), book -> book.addTest()));
        ways.put("releases", n -> times(n, new SpecBoard(), book -> book.addRelease(1)));
        ways.put("capacity of a release", n -> new SpecBoard().addRelease(n));
        ways.put("risks", n -> times(n, new SpecBoard(), book -> book.addRisk(1, 1)));
        ways.put("first chance of a risk, in thousandths", n -> new SpecBoard().addRisk(n, 1));
        ways.put("harm of a risk", n -> new SpecBoard().addRisk(1, n));
        ways.put("effects of a risk", n -> times(n, withRisk(), book -> book.lower(0, 0, 1)));
        ways.put("percentage of a lowering effect", n -> withRisk().lower(0, 0, n));
        ways.put("thousandths of a raising effect", n -> withRisk().raise(0, 0, n));
        ways.put("baselines", n -> times(n, new SpecBoard(), book -> book.makeBaseline()));
        return ways;
    }

    private static SpecBoard withRisk() {
        SpecBoard book = Books.withWishes(1);
        book.addRisk(1, 1);
        return book;
    }

    private static void times(int count, SpecBoard book, Consumer<SpecBoard> call) {
        for (int i = 0; i < count; i++) {
            call.accept(book);
        }
    }

    private static void limitHolds(String what, int least, int most, IntConsumer way) {
        for (int n = 0; n <= 10100; n++) {
            Check.same(what + ": " + n, n >= least && n <= most, works(n, way));
        }
    }

    private static boolean works(int number, IntConsumer way) {
        try {
            way.accept(number);
            return true;
        } catch (IllegalArgumentException | IllegalStateException thrown) {
            return false;
        }
    }

    // ---- examples

    private void examplesAnswer() throws Exception {
        Path folder = Files.createTempDirectory("readme");
        try {
            Path source = folder.resolve("ReadmeExample.java");
            Files.writeString(source, program());
            JavaCompiler compiler = ToolProvider.getSystemJavaCompiler();
            Check.yes("there is a compiler", compiler != null);
            int code = compiler.run(null, null, null, "-d", folder.toString(),
                "-cp", System.getProperty("java.class.path"), source.toString());
            Check.same("the examples compile", 0, code);
            if (code == 0) {
                compareAnswers(answersOf(folder));
            }
        } finally {
            remove(folder);
        }
    }

    private static List<String[]> answersOf(Path folder) throws Exception {
        List<String[]> answers = new ArrayList<>();
        try (URLClassLoader loader = new URLClassLoader(new URL[] {folder.toUri().toURL()})) {
            loader.loadClass("ReadmeExample").getMethod("run", List.class).invoke(null, answers);
        }
        return answers;
    }

    /** Every line with a // must have been asked, each public method of the class in one of them. */
    private void compareAnswers(List<String[]> answers) {
        Set<String> asked = new HashSet<>();
        for (String[] answer : answers) {
            Check.same("README.md, " + answer[0], answer[1], answer[2]);
        }
        int due = 0;
        for (String line : exampleLines()) {
            due += line.contains("// ") ? 1 : 0;
            Matcher matcher = Pattern.compile("book\\.(\\w+)\\(").matcher(line);
            while (matcher.find()) {
                asked.add(matcher.group(1));
            }
        }
        Check.same("answers of the examples", due, answers.size());
        for (Method method : SpecBoard.class.getDeclaredMethods()) {
            if (Modifier.isPublic(method.getModifiers())) {
                Check.yes("an example of " + method.getName(), asked.contains(method.getName()));
            }
        }
    }

    private List<String> exampleLines() {
        List<String> found = new ArrayList<>();
        boolean inside = false;
        for (String line : lines) {
            if (line.startsWith("```")) {
                inside = line.equals("```java");
            } else if (inside) {
                found.add(line);
            }
        }
        return found;
    }

    /** The lines of the examples in one method, which keeps what is due and what was answered. */
    private String program() {
        StringBuilder text = new StringBuilder("public final class ReadmeExample {\n"
            + "public static void run(java.util.List<String[]> answers) {\n");
        for (String line : exampleLines()) {
            Matcher matcher = ASKED.matcher(line);
            text.append(matcher.matches() ? asking(matcher.group(1), matcher.group(2)) : line);
            text.append('\n');
        }
        return text.append("}\n}\n").toString();
    }

    private static String asking(String statement, String due) {
        String told = "\"" + statement.trim().replace("\"", "\\\"") + "\"";
        if (due.startsWith("throws ")) {
            String kept = "answers.add(new String[] {" + told + ", \"" + due + "\", ";
            return "try { " + statement + "; " + kept + "\"nothing thrown\"}); }"
                + " catch (RuntimeException e) { "
                + kept + "\"throws \" + e.getClass().getSimpleName()}); }";
        }
        Matcher named = NAMED.matcher(statement.trim());
        String first = named.matches() ? statement + "; " : "";
        String answer = named.matches() ? named.group(1) : statement.trim();
        return first + "answers.add(new String[] {" + told
            + ", String.valueOf(" + due + "), String.valueOf(" + answer + ")});";
    }

    private static void remove(Path folder) throws IOException {
        File[] files = folder.toFile().listFiles();
        if (files != null) {
            for (File file : files) {
                Files.delete(file.toPath());
            }
        }
        Files.delete(folder);
    }

    // ---- tests

    private void testsAreNamed() {
        Set<String> told = new TreeSet<>();
        for (String line : lines) {
            Matcher matcher = Pattern.compile("`(\\w+Test)`").matcher(line);
            while (matcher.find()) {
                told.add(matcher.group(1));
            }
        }
        Set<String> due = new TreeSet<>();
        String[] files = TESTS.toFile().list();
        Check.yes("there are tests", files != null);
        for (String file : files == null ? new String[0] : files) {
            if (file.endsWith("Test.java")) {
                due.add(file.substring(0, file.length() - ".java".length()));
            }
        }
        Check.same("the tests that README.md names", due, told);
    }
}
