import java.io.File;
import java.io.IOException;
import java.net.URL;
import java.net.URLClassLoader;
import java.nio.file.Files;
import java.nio.file.Path;
import java.util.ArrayList;
import java.util.List;
import java.util.TreeSet;
import java.util.regex.Matcher;
import java.util.regex.Pattern;
import javax.tools.ToolProvider;

/** What README.md says is what the document says and what the class does. */
public final class ReadmeTest {
    private static final Path README = Path.of("README.md");
    private static final Path DOCUMENT = Path.of("../shared/DOC.md");
    private static final Pattern FACE = Pattern.compile("    public ((?:int|boolean) \\w+\\(.*\\));");
    private static final Pattern FACE_ROW = Pattern.compile("\\| `((?:int|boolean) \\w+\\(.*?\\))` \\| .+ \\| .*\\|");
    private static final Pattern TEST_ROW = Pattern.compile("\\| `(\\w+Test)` \\| .+ \\|");
    private static final Pattern EXAMPLE = Pattern.compile("(int \\w+ = )?(\\w+\\.\\w+\\(.*\\)); +// (-?\\w+)(:.*)?");

    private ReadmeTest() {
    }

    public static void main(String[] args) throws IOException, ReflectiveOperationException {
        List<String> lines = Files.readAllLines(README);
        Check.same("methods in README.md", matches(Files.readAllLines(DOCUMENT), FACE), matches(lines, FACE_ROW));
        Check.same("tests in README.md", tests(), matches(lines, TEST_ROW));
        examples(lines);
        kinds(lines);
        seedings(lines);
        Check.finish();
    }

    /** What stands in the first group of each line that matches, sorted. */
    private static String matches(List<String> lines, Pattern pattern) {
        List<String> found = new ArrayList<>();
        for (String line : lines) {
            Matcher matcher = pattern.matcher(line);
            if (matcher.matches()) {
                found.add(matcher.group(1));
            }
        }
        Check.isTrue(pattern + " stands somewhere", !found.isEmpty());
        found.sort(null);
        return String.join("\n", found);
    }

    private static String tests() {
        TreeSet<String> names = new TreeSet<>();
        for (String file : new File("src/test/java").list()) {
            if (file.endsWith("Test.java")) {
                names.add(file.substring(0, file.length() - ".java".length()));
            }
        }
        return String.join("\n", names);
    }

    /** The examples are compiled as they stand; behind each call stands what it answers. */
    private static void examples(List<String> lines) throws IOException, ReflectiveOperationException {
        List<String> calls = new ArrayList<>();
        List<String> wanted = new ArrayList<>();
        StringBuilder program = new StringBuilder("public final class Examples {\n"
                + "public static void run(java.util.List<Object> got) {\n");
        for (String line : exampleLines(lines)) {
            Matcher matcher = EXAMPLE.matcher(line);
            if (!matcher.matches()) {
                Check.isTrue("an example's line: " + line, !line.contains("//"));
                program.append(line).append('\n');
                continue;
            }
            calls.add(matcher.group(2));
            wanted.add(matcher.group(3).equals("NONE") ? String.valueOf(BitWell.NONE) : matcher.group(3));
            String declared = matcher.group(1);
            if (declared == null) {
                program.append("got.add(").append(matcher.group(2)).append(");\n");
            } else {
                program.append(declared).append(matcher.group(2)).append(";\n");
                program.append("got.add(").append(declared.split(" ")[1]).append(");\n");
            }
        }
        List<Object> got = run(program.append("}\n}\n").toString());
        Check.isTrue("there are examples", !calls.isEmpty());
        Check.same("answers to the examples", calls.size(), got.size());
        for (int k = 0; k < Math.min(calls.size(), got.size()); k++) {
            Check.same("README.md: " + calls.get(k), wanted.get(k), String.valueOf(got.get(k)));
        }
    }

    private static List<String> exampleLines(List<String> lines) {
        List<String> inside = new ArrayList<>();
        boolean isInside = false;
        for (String line : lines) {
            if (line.startsWith("```")) {
                isInside = line.equals("```java");
            } else if (isInside) {
                inside.add(line);
            }
        }
        return inside;
    }

    private static List<Object> run(String program) throws IOException, ReflectiveOperationException {
        List<Object> got = new ArrayList<>();
        Path folder = Files.createTempDirectory("readme");
        Path source = folder.resolve("Examples.java");
        try {
            Files.writeString(source, program);
            int failed = ToolProvider.getSystemJavaCompiler().run(null, null, null, "-proc:none",
                    "-cp", System.getProperty("java.class.path"), "-d", folder.toString(), source.toString());
            Check.same("the examples compile: javac", 0, failed);
            if (failed == 0) {
                try (URLClassLoader loader = new URLClassLoader(new URL[] {folder.toUri().toURL()})) {
                    loader.loadClass("Examples").getMethod("run", List.class).invoke(null, got);
                }
            }
        } finally {
            Files.deleteIfExists(folder.resolve("Examples.class"));
            Files.deleteIfExists(source);
            Files.delete(folder);
        }
        return got;
    }

    /** The rows of numbers below a heading that begins so, without the texts among them. */
    private static List<int[]> numbersBelow(List<String> lines, String heading) {
        List<int[]> rows = new ArrayList<>();
        boolean isBelow = false;
        for (String line : lines) {
            isBelow = line.startsWith(heading) || isBelow && line.startsWith("|");
            if (isBelow && line.matches("\\| \\d+ \\|.*")) {
                rows.add(numbers(line));
            }
        }
        return rows;
    }

    private static int[] numbers(String line) {
        List<Integer> found = new ArrayList<>();
        for (String cell : line.split("\\|")) {
            if (cell.matches(" \\d+ ")) {
                found.add(Integer.parseInt(cell.trim()));
            }
        }
        return found.stream().mapToInt(n -> n).toArray();
    }

    private static Run filled() {
        return new Run().waiting(200);
    }

    private static void kinds(List<String> lines) {
        List<int[]> rows = numbersBelow(lines, "| kind |");
        Check.same("kinds in README.md", 8, rows.size());
        for (int kind = 0; kind < rows.size(); kind++) {
            int[] row = rows.get(kind);
            Check.begin("README.md, kind " + kind);
            Check.same("numbers", 5, row.length);
            int strongest = row[1];
            Check.same("kind", kind, row[0]);
            Check.same("open above", -3, filled().made().open(row[0], strongest + 1, false, 1));
            Run opened = filled().then(well -> well.open(row[0], strongest, false, 1));
            opened.generator(0, 1, strongest).generator(0, 5, row[2]);
            Check.same("bytes of V", row[3], opened.state(0, 0).length);
            Check.same("bytes of C or K", row[4], opened.state(0, 1).length);
        }
    }

    private static void seedings(List<String> lines) {
        List<int[]> rows = numbersBelow(lines, "| STRENGTH |");
        Check.same("strengths in README.md", Kinds.STRENGTHS.length, rows.size());
        for (int[] row : rows) {
            Check.begin("README.md, strength " + row[0]);
            Check.same("numbers", 3, row.length);
            for (int kind = 0; kind < 6; kind++) {
                if (row[0] <= Kinds.most(kind)) {
                    seedings(kind, row[0], row[1], row[2]);
                }
            }
        }
    }

    private static void seedings(int kind, int strength, int first, int anew) {
        BitWell well = filled().made();
        well.open(kind, strength, false, 1);
        Check.same("STRENGTH of kind " + kind, strength, well.generator(0, 1));
        Check.same("bytes of the first seeding, kind " + kind, first, well.source(6));
        well.reseed(0, false);
        Check.same("bytes of a seeding anew, kind " + kind, anew, well.source(6) - first);
    }
}
