import java.io.File;
import java.io.IOException;
import java.nio.charset.StandardCharsets;
import java.nio.file.Files;
import java.nio.file.Path;
import java.util.ArrayList;
import java.util.List;
import java.util.TreeSet;
import java.util.regex.Matcher;
import java.util.regex.Pattern;

/** README.md as it stands: its example, its commands, what they print, and its list of tests. */
public final class ReadmeTest {
    private static final Path README = Path.of("README.md");
    private static final Path CLASS = Path.of("src/main/java/Glosstemplate.java");
    private static final Path TESTS = Path.of("src/test/java");
    private static final Path RUN = Path.of(".ci/run");
    private static final Pattern BLOCK = Pattern.compile("(?ms)^```(\\w+)\\n(.*?)^```$");
    private static final Pattern TEST_ROW = Pattern.compile("(?m)^\\| `(\\w+Test)` \\|");
    private static final Check CHECK = new Check();

    public static void main(String[] args) throws IOException, InterruptedException {
        String readme = Files.readString(README);
        List<String> programs = blocks(readme, "java");
        List<String> commands = blocks(readme, "sh");
        List<String> printed = blocks(readme, "text");
        CHECK.equal("how many programs README.md shows", 1, programs.size());
        CHECK.equal("how many outputs README.md shows", 1, printed.size());
        CHECK.equal("how many rows of commands README.md shows", 2, commands.size());
        if (CHECK.wrong() == 0) {
            CHECK.same("the example", printed.get(0), runExample(programs.get(0), commands.get(0)));
            CHECK.same("the way to run the tests", RUN + "\n", commands.get(1));
        }
        CHECK.yes(RUN + " may be executed", Files.isExecutable(RUN));
        CHECK.same("the tests in README.md", testsThere().toString(), testsNamed(readme).toString());
        CHECK.end();
    }

    private static List<String> blocks(String readme, String kind) {
        List<String> blocks = new ArrayList<>();
        Matcher block = BLOCK.matcher(readme);
        while (block.find()) {
            if (block.group(1).equals(kind)) {
                blocks.add(block.group(2));
            }
        }
        return blocks;
    }

    /** Does what README.md tells a reader to do, in a folder of its own. */
    private static String runExample(String program, String commands) throws IOException, InterruptedException {
        Path folder = Path.of("build/readme");
        remove(folder.toFile());
        Path copy = folder.resolve(CLASS);
        Files.createDirectories(copy.getParent());
        Files.copy(CLASS, copy);
        Files.writeString(folder.resolve("Example.java"), program);
        Process process = new ProcessBuilder("sh", "-e", "-c", commands)
                .directory(folder.toFile()).redirectError(ProcessBuilder.Redirect.INHERIT).start();
        String printed = new String(process.getInputStream().readAllBytes(), StandardCharsets.UTF_8);
        CHECK.equal("the exit code of the commands", 0, process.waitFor());
        remove(folder.toFile());
        return printed;
    }

    private static void remove(File file) {
        File[] within = file.listFiles();
        if (within != null) {
            for (File one : within) {
                remove(one);
            }
        }
        file.delete();
    }

    private static TreeSet<String> testsNamed(String readme) {
        TreeSet<String> names = new TreeSet<>();
        Matcher row = TEST_ROW.matcher(readme);
        while (row.find()) {
            names.add(row.group(1));
        }
        return names;
    }

    private static TreeSet<String> testsThere() {
        TreeSet<String> names = new TreeSet<>();
        String[] files = TESTS.toFile().list();
        if (files != null) {
            for (String file : files) {
                if (file.endsWith("Test.java")) {
                    names.add(file.substring(0, file.length() - ".java".length()));
                }
            }
        }
        return names;
    }
}
