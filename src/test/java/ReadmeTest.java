import java.io.IOException;
import java.lang.reflect.Method;
import java.lang.reflect.Modifier;
import java.net.URL;
import java.net.URLClassLoader;
import java.nio.file.Files;
import java.nio.file.Path;
import java.util.ArrayList;
import java.util.List;
import java.util.regex.Matcher;
import java.util.regex.Pattern;
import java.util.stream.Stream;
import javax.tools.JavaCompiler;
import javax.tools.ToolProvider;

/** What README.md shows: its Java is compiled and run, and each answer behind // is the one that is due. */
public final class ReadmeTest {
    private static final Path README = Path.of("README.md");
    private static final Path TESTS = Path.of("src/test/java");
    private static final Pattern BLOCK = Pattern.compile("(?ms)^```java\n(.*?)^```$");
    private static final Pattern SHOWN = Pattern.compile("^(\\S.*\\));\\s+// (-?\\d+|[A-Z]+)(?:: .*)?$");
    private static final Pattern CONSTANT = Pattern.compile("(?m)^\\| `([A-Z]+)` *\\| (-\\d+) *\\|");
    private static final Pattern FILE = Pattern.compile("(?<![\\w/])(?:src|\\.ci)/[\\w./]*\\w");

    public static void main(String[] args) throws IOException, ReflectiveOperationException {
        String page = Files.readString(README);
        constantsAreTold(page);
        List<String> blocks = blocks(page);
        answersAreAsShown(blocks);
        allCallsAreShown(page, String.join("", blocks));
        filesAreThere(page);
        testsAreNamed(page);
        Due.end();
    }

    private static void constantsAreTold(String page) throws ReflectiveOperationException {
        Matcher m = CONSTANT.matcher(page);
        int seen = 0;
        while (m.find()) {
            seen++;
            Due.is(m.group(1), DebtDowry.class.getField(m.group(1)).getInt(null), Integer.parseInt(m.group(2)));
        }
        Due.is("constants in the table", seen, 5);
    }

    private static List<String> blocks(String page) {
        List<String> blocks = new ArrayList<>();
        Matcher m = BLOCK.matcher(page);
        while (m.find()) {
            blocks.add(m.group(1));
        }
        return blocks;
    }

    private static void answersAreAsShown(List<String> blocks) throws IOException, ReflectiveOperationException {
        List<String> rows = run(sourceOf(blocks));
        for (int i = 0; i < rows.size(); i += 3) {
            int got = Integer.parseInt(rows.get(i + 1));
            Due.is("README's " + rows.get(i), got, Integer.parseInt(rows.get(i + 2)));
        }
        Due.is("lines that show an answer", rows.size() / 3, linesWithComment(blocks));
    }

    /** Each line with // shows an answer: none may be passed over because it is written in another way. */
    private static int linesWithComment(List<String> blocks) {
        int lines = 0;
        for (String line : String.join("", blocks).split("\n")) {
            lines += line.contains("//") ? 1 : 0;
        }
        return lines;
    }

    private static String sourceOf(List<String> blocks) {
        StringBuilder helpers = new StringBuilder();
        StringBuilder steps = new StringBuilder();
        for (String block : blocks) {
            if (block.startsWith("static ")) {
                helpers.append(block);
                continue;
            }
            for (String line : block.split("\n")) {
                steps.append(step(line)).append('\n');
            }
        }
        return "public final class Shown implements java.util.function.Supplier<java.util.List<String>> {\n"
            + "private final java.util.List<String> rows = new java.util.ArrayList<>();\n"
            + "private void note(String call, int got, int due) {\n"
            + "rows.addAll(java.util.List.of(call, String.valueOf(got), String.valueOf(due)));\n}\n"
            + helpers + "public java.util.List<String> get() {\n" + steps + "return rows;\n}\n}\n";
    }

    private static String step(String line) {
        Matcher m = SHOWN.matcher(line);
        if (!m.matches()) {
            return line;
        }
        String call = m.group(1);
        String due = Character.isLetter(m.group(2).charAt(0)) ? "DebtDowry." + m.group(2) : m.group(2);
        String name = call.replace("\\", "\\\\").replace("\"", "\\\"");
        return "note(\"" + name + "\", " + call + ", " + due + ");";
    }

    private static List<String> run(String source) throws IOException, ReflectiveOperationException {
        Path room = Files.createTempDirectory("readme");
        Path file = room.resolve("Shown.java");
        Files.writeString(file, source);
        JavaCompiler compiler = ToolProvider.getSystemJavaCompiler();
        int wrong = compiler.run(null, null, null, "-cp", System.getProperty("java.class.path"),
            "-d", room.toString(), file.toString());
        Due.is("faults by which README's Java does not compile", wrong, 0);
        List<String> rows = wrong == 0 ? answers(room) : List.of();
        Files.deleteIfExists(room.resolve("Shown.class"));
        Files.delete(file);
        Files.delete(room);
        return rows;
    }

    private static List<String> answers(Path room) throws IOException, ReflectiveOperationException {
        List<String> rows = new ArrayList<>();
        try (URLClassLoader loader = new URLClassLoader(new URL[] {room.toUri().toURL()})) {
            Object shown = loader.loadClass("Shown").getConstructor().newInstance();
            for (Object row : (List<?>) ((java.util.function.Supplier<?>) shown).get()) {
                rows.add((String) row);
            }
        }
        return rows;
    }

    /** Each call stands in a table, and with an answer in an example. */
    private static void allCallsAreShown(String page, String examples) {
        for (Method m : DebtDowry.class.getDeclaredMethods()) {
            if (Modifier.isPublic(m.getModifiers())) {
                Due.isTrue(m.getName() + " is told in a table", page.contains("| `" + m.getName() + "("));
                boolean shown = Pattern.compile("\\." + m.getName() + "\\(").matcher(examples).find();
                Due.isTrue(m.getName() + " is shown in an example", shown);
            }
        }
    }

    private static void filesAreThere(String page) {
        Matcher m = FILE.matcher(page);
        int seen = 0;
        while (m.find()) {
            seen++;
            Due.isTrue(m.group() + " is there", Files.exists(Path.of(m.group())));
        }
        Due.isTrue("files are named", seen > 5);
    }

    private static void testsAreNamed(String page) throws IOException {
        try (Stream<Path> files = Files.list(TESTS)) {
            files.map(file -> file.getFileName().toString().replace(".java", "")).forEach(
                name -> Due.isTrue(name + " is named", page.contains("`" + name + "`")));
        }
    }
}
