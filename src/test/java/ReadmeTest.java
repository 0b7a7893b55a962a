import java.io.IOException;
import java.lang.reflect.Field;
import java.lang.reflect.Modifier;
import java.net.URL;
import java.net.URLClassLoader;
import java.nio.file.Files;
import java.nio.file.Path;
import java.util.ArrayList;
import java.util.List;
import java.util.Set;
import java.util.TreeSet;
import java.util.regex.Matcher;
import java.util.regex.Pattern;
import java.util.stream.Stream;
import javax.tools.JavaCompiler;
import javax.tools.ToolProvider;

/** README.md: its examples answer what it says, it names every call and every test, and .ci/run does what it says. */
public final class ReadmeTest {
    private static final Path README = Path.of("README.md");
    private static final Path TESTS = Path.of("src/test/java");
    private static final Pattern EXAMPLE = Pattern.compile("\\s*(g\\.\\w+\\(.*\\));\\s*// (-?\\d+)?.*");

    public static void main(String[] args) throws Exception {
        Check.due("README.md is there", Files.isRegularFile(README));
        if (Files.isRegularFile(README)) {
            String readme = Files.readString(README);
            examples(section(readme, "Use"));
            calls(section(readme, "Use"));
            constants(section(readme, "Use"));
            testsAreNamed(section(readme, "Tests"));
            quotedTests(section(readme, "Tests"));
            command(section(readme, "Tests"));
            whatTheScriptDoes(section(readme, "Tests"));
        }
        Check.finish("ReadmeTest");
    }

    private static String section(String readme, String title) {
        Matcher m = Pattern.compile("(?s)\n## " + title + "\n(.*?)(?=\n## |\\z)").matcher(readme);
        boolean found = m.find();
        Check.due("README.md has a part: " + title, found);
        return found ? m.group(1) : "";
    }

    private static List<String> blocks(String section, String language) {
        List<String> all = new ArrayList<>();
        Matcher m = Pattern.compile("(?s)\n```" + language + "\n(.*?)\n```").matcher(section);
        while (m.find()) {
            all.add(m.group(1));
        }
        return all;
    }

    private static String inOneLine(String text) {
        return text.replaceAll("\\s+", " ");
    }

    // ---- how to use the class

    /** The examples go on from one another: they are one program, which hands out each answer and the one told. */
    private static void examples(String section) throws Exception {
        StringBuilder body = new StringBuilder();
        int told = 0;
        for (String line : String.join("\n", blocks(section, "java")).split("\n")) {
            Matcher m = EXAMPLE.matcher(line);
            boolean isCall = m.matches();
            Check.due("a word to each call: " + line, isCall || !line.strip().startsWith("g."));
            if (isCall && m.group(2) != null) {
                told++;
                String call = m.group(1).replace("\\", "\\\\").replace("\"", "\\\"");
                body.append("out.add(new Object[] {\"" + call + "\", " + m.group(1) + ", " + m.group(2) + "});\n");
            } else {
                body.append(line + "\n");
            }
        }
        Check.due("answers in the examples: " + told, told >= 10);
        for (Object[] one : answersOf(body.toString())) {
            Check.due("README.md: " + one[0], (Integer) one[1], (Integer) one[2]);
        }
    }

    private static List<Object[]> answersOf(String body) throws Exception {
        List<Object[]> out = new ArrayList<>();
        Path directory = Files.createTempDirectory("readme");
        Path source = directory.resolve("Example.java");
        Files.writeString(source, "public final class Example {\n"
            + "public static void run(java.util.List<Object[]> out) {\n" + body + "}\n}\n");
        JavaCompiler javac = ToolProvider.getSystemJavaCompiler();
        String classes = System.getProperty("java.class.path");
        int compiled = javac.run(null, null, null, "-cp", classes, "-d", directory.toString(), source.toString());
        Check.due("the examples compile", compiled, 0);
        if (compiled == 0) {
            try (URLClassLoader loader = new URLClassLoader(new URL[] {directory.toUri().toURL()})) {
                loader.loadClass("Example").getMethod("run", List.class).invoke(null, out);
            }
        }
        Files.deleteIfExists(directory.resolve("Example.class"));
        Files.delete(source);
        Files.delete(directory);
        return out;
    }

    private static void calls(String section) throws IOException {
        Set<String> due = new TreeSet<>();
        Matcher face = Pattern.compile("public int (\\w+)\\((.*)\\);").matcher(Files.readString(Path.of("../shared/DOC.md")));
        while (face.find()) {
            due.add(face.group(1) + "(" + face.group(2).replace("int ", "") + ")");
        }
        Set<String> named = new TreeSet<>();
        Matcher m = Pattern.compile("`(\\w+\\([\\w, ]*\\))`").matcher(section);
        while (m.find()) {
            named.add(m.group(1));
        }
        Check.due("calls of the face", due.size(), 37);
        Check.due("README.md names the calls " + named + ", due are " + due, named.equals(due));
    }

    private static void constants(String section) throws IllegalAccessException {
        for (Field f : MaypoleGreen.class.getFields()) {
            if (Modifier.isStatic(f.getModifiers())) {
                String row = "| " + f.getInt(null) + " | `" + f.getName() + "` |";
                Check.due("README.md has " + row, section.contains(row));
            }
        }
    }

    // ---- how to run the tests

    private static void testsAreNamed(String section) throws IOException {
        Set<String> due = new TreeSet<>();
        try (Stream<Path> files = Files.list(TESTS)) {
            files.map(file -> file.getFileName().toString()).filter(name -> name.endsWith("Test.java"))
                .forEach(name -> due.add(name.replace(".java", "")));
        }
        Set<String> named = new TreeSet<>();
        Matcher m = Pattern.compile("`(\\w+Test)`").matcher(section);
        while (m.find()) {
            named.add(m.group(1));
        }
        Check.due("README.md names the tests " + named + ", there are " + due, named.equals(due));
    }

    private static void quotedTests(String section) throws IOException {
        StringBuilder all = new StringBuilder();
        try (Stream<Path> files = Files.list(TESTS)) {
            for (Path file : files.filter(one -> one.toString().endsWith("Sentences.java")).toList()) {
                all.append(inOneLine(Files.readString(file)));
            }
        }
        for (String block : blocks(section, "java")) {
            Check.due("a test that README.md shows stands in " + TESTS + ": " + block,
                all.toString().contains(inOneLine(block)));
        }
    }

    private static void command(String section) {
        Check.due("one command runs the tests", blocks(section, "sh").equals(List.of(".ci/run")));
        Check.due(".ci/run can be run", Files.isExecutable(Path.of(".ci/run")));
    }

    private static void says(String section, String sentence) {
        Check.due("README.md says: " + sentence, inOneLine(section).contains(sentence));
    }

    /** Each sentence that README.md says of .ci/run, seen on projects where something is not as it should be. */
    private static void whatTheScriptDoes(String section) throws Exception {
        String test = "main/src/test/java/";
        String shared = "shared/tests/";
        String broken = "int i = \"\";";
        try (ScratchProject right = new ScratchProject().start();
                ScratchProject warned = new ScratchProject().putMain(test + "Helper.java", "java.util.List a = null;").start();
                ScratchProject noHelper = new ScratchProject().putMain(test + "Helper.java", broken).start();
                ScratchProject noClass = new ScratchProject().put("main/src/main/java/MaypoleGreen.java", "class").start();
                ScratchProject wrongTest = new ScratchProject().putMain(test + "OneTest.java", "System.exit(1);").start();
                ScratchProject wrongRuns = new ScratchProject().putMain(shared + "OneRuns.java", "System.exit(3);").start();
                ScratchProject noRuns = new ScratchProject().putMain(shared + "OneRuns.java", broken).start();
                ScratchProject noShared = new ScratchProject().without(shared + "OneRuns.java")
                    .without(shared + "TwoRuns.java").start();
                ScratchProject nowhere = new ScratchProject().without(shared + "OneRuns.java")
                    .without(shared + "TwoRuns.java").without(shared).start()) {
            says(section, "it can be started from any directory");
            says(section, "It ends with exit code 0 if all passed");
            ended("all is right", right, 0, "4 passed, 0 failed");

            says(section, "It compiles `src/main/java/MaypoleGreen.java` together with all files of `src/test/java`,"
                + " and no warning may come.");
            ended("a warning", warned, 1, "2 passed, 1 failed");
            ended("a helper that does not compile", noHelper, 1, "2 passed, 1 failed");
            ended("a class that does not compile", noClass, 1, "0 passed, 3 failed");

            says(section, "It runs each `*Test.java` of `src/test/java`.");
            prints("all is right", right, "OneTest ran with ring 7", "TwoTest ran with ring 7");
            Check.due("Helper.java is no test", !right.printed().toString().contains("Helper.java ran"));

            says(section, "It compiles each Java file under `../shared/tests` together with"
                + " `src/main/java/MaypoleGreen.java`, and runs it.");
            prints("all is right", right, "OneRuns ran with ring 7", "TwoRuns ran with ring 7");

            says(section, "For each test it prints `ok` or `FAILED` with the test's file, behind what the test itself"
                + " prints.");
            prints("all is right", right, "ok      src/test/java/OneTest.java", "ok      src/test/java/TwoTest.java",
                "ok      ../shared/tests/OneRuns.java", "ok      ../shared/tests/TwoRuns.java");
            int ran = right.printed().indexOf("OneTest ran with ring 7");
            Check.due("behind what the test prints",
                right.printed().indexOf("ok      src/test/java/OneTest.java"), ran + 1);
            prints("a test that fails", wrongTest, "FAILED  src/test/java/OneTest.java",
                "ok      src/test/java/TwoTest.java", "ok      ../shared/tests/OneRuns.java");
            prints("a shared test that fails", wrongRuns, "FAILED  ../shared/tests/OneRuns.java",
                "ok      ../shared/tests/TwoRuns.java");
            prints("a shared test that does not compile", noRuns, "FAILED  ../shared/tests/OneRuns.java",
                "ok      ../shared/tests/TwoRuns.java");

            says(section, "The last line counts those that passed and those that failed.");
            says(section, "and with 1 if one fails, does not compile, or there is none under `../shared/tests`.");
            ended("a test that fails", wrongTest, 1, "3 passed, 1 failed");
            ended("a shared test that fails", wrongRuns, 1, "3 passed, 1 failed");
            ended("a shared test that does not compile", noRuns, 1, "3 passed, 1 failed");
            prints("no shared tests", noShared, "FAILED  no tests under ../shared/tests");
            ended("no shared tests", noShared, 1, "2 passed, 1 failed");
            ended("no directory of shared tests", nowhere, 1, "2 passed, 1 failed");
        }
    }

    private static void ended(String when, ScratchProject project, int code, String last) throws Exception {
        Check.due(".ci/run's exit code, " + when, project.exitCode(), code);
        List<String> lines = project.printed();
        String there = lines.isEmpty() ? "" : lines.get(lines.size() - 1);
        Check.due(".ci/run's last line, " + when + ": " + there, there.equals(last));
    }

    private static void prints(String when, ScratchProject project, String... lines) throws Exception {
        project.exitCode();
        for (String line : lines) {
            Check.due(".ci/run prints, " + when + ": " + line, project.printed().contains(line));
        }
    }
}
