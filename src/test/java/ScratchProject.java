import java.io.File;
import java.io.IOException;
import java.nio.file.Files;
import java.nio.file.Path;
import java.util.ArrayList;
import java.util.List;
import java.util.concurrent.TimeUnit;

/** A small project with the .ci/run of this one: two tests of its own, a helper, two shared tests, all passing. */
final class ScratchProject implements AutoCloseable {
    private static final int MOST_SECONDS = 300;

    private final Path root;
    private Process script;

    ScratchProject() throws IOException {
        root = Files.createTempDirectory("green");
        Path run = root.resolve("main/.ci/run");
        Files.createDirectories(run.getParent());
        Files.copy(Path.of(".ci/run"), run);
        put("main/src/main/java/MaypoleGreen.java", "public final class MaypoleGreen { public int ring() { return 7; } }");
        put("main/src/test/java/Helper.java", printing("Helper", "Helper.java ran"));
        put("main/src/test/java/OneTest.java", printing("OneTest", "OneTest ran with ring"));
        put("main/src/test/java/TwoTest.java", printing("TwoTest", "TwoTest ran with ring"));
        put("shared/tests/OneRuns.java", printing("OneRuns", "OneRuns ran with ring"));
        put("shared/tests/TwoRuns.java", printing("TwoRuns", "TwoRuns ran with ring"));
    }

    private static String printing(String name, String words) {
        return "public final class " + name + " { public static void main(String[] args) {\n"
            + "System.out.println(\"" + words + " \" + new MaypoleGreen().ring()); } }\n";
    }

    /** A file in place of the one that is there. */
    ScratchProject put(String file, String text) throws IOException {
        Path path = root.resolve(file);
        Files.createDirectories(path.getParent());
        Files.writeString(path, text);
        return this;
    }

    /** A program in place of the one that is there: a class of the file's name whose main method has this body. */
    ScratchProject putMain(String file, String body) throws IOException {
        String name = file.replaceAll(".*/|\\.java", "");
        return put(file, "public final class " + name + " { public static void main(String[] args) { " + body + " } }");
    }

    ScratchProject without(String file) throws IOException {
        Files.delete(root.resolve(file));
        return this;
    }

    /** Starts the script, not from its own directory; several projects' scripts may run at once. */
    ScratchProject start() throws IOException {
        File out = root.resolve("out").toFile();
        script = new ProcessBuilder("bash", "main/.ci/run").directory(root.toFile())
            .redirectErrorStream(true).redirectOutput(out).start();
        return this;
    }

    int exitCode() throws InterruptedException {
        return script.waitFor(MOST_SECONDS, TimeUnit.SECONDS) ? script.exitValue() : -1;
    }

    List<String> printed() throws IOException {
        return Files.readAllLines(root.resolve("out"));
    }

    @Override
    public void close() throws IOException {
        List<Path> all = new ArrayList<>();
        try (var walk = Files.walk(root)) {
            walk.forEach(all::add);
        }
        for (int i = all.size() - 1; i >= 0; i--) {
            Files.delete(all.get(i));
        }
    }
}
