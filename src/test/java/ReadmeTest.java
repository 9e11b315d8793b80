import java.io.ByteArrayOutputStream;
import java.io.File;
import java.io.IOException;
import java.io.PrintStream;
import java.net.URL;
import java.net.URLClassLoader;
import java.nio.file.Files;
import java.nio.file.Path;
import java.util.ArrayList;
import java.util.Collections;
import java.util.List;
import java.util.stream.Stream;
import javax.tools.ToolProvider;

/** README.md is true: its example prints what it says, and its lists have each call and each test. */
public final class ReadmeTest {
    private static final Checks CHECKS = new Checks("ReadmeTest");
    private static final Path README = Path.of("README.md");
    private static final String PRINT = "System.out.println(";

    public static void main(String[] args) throws Exception {
        List<String> lines = Files.readAllLines(README);
        List<String> example = example(lines);
        CHECKS.isTrue("the example is empty", !example.isEmpty());
        List<String> due = duePrints(example);
        List<String> got = run(example);
        CHECKS.isTrue("the example prints " + got + ", README.md says " + due, due.equals(got));
        calls(lines);
        tests(lines);
        CHECKS.end();
    }

    private static List<String> example(List<String> lines) {
        List<String> example = new ArrayList<>();
        int from = lines.indexOf("```java");
        for (int at = from + 1; from >= 0 && at < lines.size(); at++) {
            if (lines.get(at).equals("```")) {
                return example;
            }
            example.add(lines.get(at));
        }
        CHECKS.tell("there is no whole example in README.md");
        return List.of();
    }

    /** What the comments behind the prints say, each up to the colon. */
    private static List<String> duePrints(List<String> example) {
        List<String> due = new ArrayList<>();
        for (String line : example) {
            int comment = line.indexOf("// ");
            if (line.contains(PRINT) && comment >= 0) {
                due.add(line.substring(comment + 3).split(":", 2)[0]);
            }
        }
        return due;
    }

    private static List<String> run(List<String> example) throws Exception {
        Path folder = Files.createTempDirectory("readme");
        try {
            Path source = Files.write(folder.resolve("Example.java"), example);
            int failed = ToolProvider.getSystemJavaCompiler().run(null, null, null, "-cp",
                    System.getProperty("java.class.path"), "-d", folder.toString(),
                    source.toString());
            CHECKS.equal("javac of the example", 0, failed);
            return failed == 0 ? printed(folder) : List.of();
        } finally {
            delete(folder);
        }
    }

    private static List<String> printed(Path folder) throws Exception {
        PrintStream before = System.out;
        ByteArrayOutputStream bytes = new ByteArrayOutputStream();
        URL[] urls = {folder.toUri().toURL()};
        try (URLClassLoader loader = new URLClassLoader(urls)) {
            System.setOut(new PrintStream(bytes, true));
            loader.loadClass("Example").getMethod("main", String[].class)
                    .invoke(null, (Object) new String[0]);
        } finally {
            System.setOut(before);
        }
        return bytes.toString().lines().toList();
    }

    private static void delete(Path folder) throws IOException {
        try (Stream<Path> files = Files.list(folder)) {
            files.map(Path::toFile).forEach(File::delete);
        }
        Files.delete(folder);
    }

    /** Each public method with as many arguments and the same exceptions, in their order. */
    private static void calls(List<String> lines) {
        List<String> due = FaceTest.face().stream().map(ReadmeTest::rowOf).sorted().toList();
        List<String> told = new ArrayList<>();
        for (String line : lines) {
            String[] cells = line.split("\\|", -1);
            if (cells.length == 6 && cells[1].matches(" \\d+ ") && !cells[1].equals(" 1 ")) {
                String call = cells[2].replaceAll("[` ]", "").replaceAll("\\w+(?=[,)])", "_");
                told.add(call + " " + cells[4].replace(",", "").trim());
            }
        }
        Collections.sort(told);
        CHECKS.isTrue("README.md lists " + told + ", due is " + due, told.equals(due));
    }

    /** Out of a line of the face, such as "int most(int) IllegalArgumentException". */
    private static String rowOf(String line) {
        int from = line.indexOf(' ') + 1;
        int to = line.indexOf(')') + 1;
        String call = line.substring(from, to).replace(" ", "").replaceAll("\\w+(?=[,)])", "_");
        String thrown = line.substring(to).replace("IndexOutOfBoundsException", "Index")
                .replace("IllegalArgumentException", "Argument")
                .replace("IllegalStateException", "State");
        return call + " " + thrown.trim();
    }

    private static void tests(List<String> lines) throws IOException {
        List<String> told = new ArrayList<>();
        for (String line : lines) {
            if (line.matches("\\| `\\w+Test` \\|.*")) {
                told.add(line.substring(3, line.indexOf('`', 3)) + ".java");
            }
        }
        Collections.sort(told);
        try (Stream<Path> files = Files.list(Path.of("src", "test", "java"))) {
            List<String> there = files.map(file -> file.getFileName().toString())
                    .filter(name -> name.endsWith("Test.java")).sorted().toList();
            CHECKS.isTrue("README.md tells of " + told + ", there are " + there,
                    told.equals(there));
        }
    }
}
