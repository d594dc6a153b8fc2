import java.io.IOException;
import java.lang.reflect.Method;
import java.lang.reflect.Modifier;
import java.nio.file.DirectoryStream;
import java.nio.file.Files;
import java.nio.file.Path;
import java.util.ArrayList;
import java.util.Comparator;
import java.util.List;
import java.util.Map;
import java.util.Set;
import java.util.TreeMap;
import java.util.TreeSet;
import java.util.concurrent.TimeUnit;
import java.util.regex.Matcher;
import java.util.regex.Pattern;
import java.util.stream.Stream;

/** README.md: its commands compile and run its example, which answers as it says; run from the project's folder. */
public final class ReadmeTest {
    private static final Due DUE = new Due();
    private static final Path PROGRAM = Path.of("src/main/java/RelayTrays.java");
    private static final Path TESTS = Path.of("src/test/java");
    private static final String EXAMPLE = "Example.java";
    private static final int SECONDS = 120;

    private static final Pattern CALL = Pattern.compile("\\bx\\.(\\w+)\\(");
    private static final Pattern ANSWER = Pattern.compile("println\\(x\\..*\\);\\s*// (-?\\d+)\\b.*");
    private static final Pattern NAMED_ANSWER = Pattern.compile("(?m)^\\| (-\\d+) \\| `?(\\w+)`? \\|");
    private static final Pattern NAMED_TEST = Pattern.compile("(?m)^\\| `(\\w+Test)` \\|");

    public static void main(String[] args) throws IOException, InterruptedException {
        String readme = Files.readString(Path.of("README.md"));
        String example = exampleOf(readme);
        theExampleAnswersAsItSays(readme, example);
        theExampleCallsEveryMethod(example);
        theAnswersBelowZero(readme, example);
        theTests(readme);
        DUE.end("ReadmeTest");
    }

    private static String exampleOf(String readme) {
        Matcher block = Pattern.compile("(?s)```java\n(.*?)```").matcher(readme);
        DUE.holds("README.md has an example", block.find());
        String example = block.group(1);
        DUE.holds("README.md has one example", !block.find());
        return example;
    }

    // ---- the example

    /** The commands are taken from README.md too, and run in a folder that has what they name. */
    private static void theExampleAnswersAsItSays(String readme, String example)
            throws IOException, InterruptedException {
        Path folder = Files.createTempDirectory("readme");
        try {
            Files.createDirectories(folder.resolve(PROGRAM).getParent());
            Files.copy(PROGRAM, folder.resolve(PROGRAM));
            Files.writeString(folder.resolve(EXAMPLE), example);
            List<String> compiled = printed(folder, command(readme, "javac"));
            DUE.holds("the example is compiled: " + compiled, compiled.isEmpty());
            answersAre(printed(folder, command(readme, "java")), example);
        } finally {
            remove(folder);
        }
    }

    private static void answersAre(List<String> printed, String example) {
        List<String> asked = new ArrayList<>();
        for (String line : example.split("\n")) {
            if (line.contains("println")) {
                asked.add(line.strip());
            }
        }
        DUE.due("lines that the example prints", printed.size(), asked.size());
        for (int i = 0; i < Math.min(asked.size(), printed.size()); i++) {
            Matcher answer = ANSWER.matcher(asked.get(i));
            DUE.holds("an answer is told: " + asked.get(i), answer.find());
            DUE.due("README.md: " + asked.get(i), Long.parseLong(printed.get(i)), Long.parseLong(answer.group(1)));
        }
    }

    private static List<String> command(String readme, String program) {
        Matcher line = Pattern.compile("(?m)^    (" + program + " .*)$").matcher(readme);
        DUE.holds("README.md tells how " + program + " is run", line.find());
        List<String> words = new ArrayList<>(List.of(line.group(1).split(" ")));
        // the same machine that runs this test, whatever the path finds
        words.set(0, Path.of(System.getProperty("java.home"), "bin", program).toString());
        return words;
    }

    private static List<String> printed(Path folder, List<String> command) throws IOException, InterruptedException {
        Path out = Files.createTempFile(folder, "printed", ".txt");
        Process process = new ProcessBuilder(command)
            .directory(folder.toFile()).redirectErrorStream(true).redirectOutput(out.toFile()).start();
        boolean ended = process.waitFor(SECONDS, TimeUnit.SECONDS);
        if (!ended) {
            process.destroyForcibly();
        }
        DUE.holds(command + " ends", ended);
        List<String> lines = Files.readAllLines(out);
        DUE.holds(command + " ends with exit code 0: " + lines, ended && process.exitValue() == 0);
        return lines;
    }

    private static void remove(Path folder) throws IOException {
        try (Stream<Path> all = Files.walk(folder)) {
            for (Path path : (Iterable<Path>) all.sorted(Comparator.reverseOrder())::iterator) {
                Files.delete(path);
            }
        }
    }

    /** The example is there to show how the class is used: all of it. */
    private static void theExampleCallsEveryMethod(String example) {
        Set<String> called = new TreeSet<>();
        Matcher call = CALL.matcher(example);
        while (call.find()) {
            called.add(call.group(1));
        }
        Set<String> due = new TreeSet<>();
        for (Method method : RelayTrays.class.getDeclaredMethods()) {
            if (Modifier.isPublic(method.getModifiers())) {
                due.add(method.getName());
            }
        }
        DUE.holds("the example calls " + due + ": " + called, called.equals(due));
    }

    // ---- the tables

    private static void theAnswersBelowZero(String readme, String example) {
        Map<String, Integer> due = new TreeMap<>(Map.of(
            "BAD", RelayTrays.BAD, "FULL", RelayTrays.FULL, "SPENT", RelayTrays.SPENT, "NONE", RelayTrays.NONE));
        List<String> causes = List.of("NOTHING", "BARE", "PLACE", "MISFIT", "SIZE", "WIDE");
        for (int cause = 1; cause <= causes.size(); cause++) {
            due.put(causes.get(cause - 1), -10 - cause);
        }
        Map<String, Integer> told = new TreeMap<>();
        Matcher line = NAMED_ANSWER.matcher(readme);
        while (line.find()) {
            told.put(line.group(2), Integer.parseInt(line.group(1)));
        }
        DUE.holds("the answers below 0 are " + due + ": " + told, told.equals(due));
        for (Map.Entry<String, Integer> answer : due.entrySet()) {
            String shown = "// " + answer.getValue() + ": " + answer.getKey();
            DUE.holds("the example shows " + shown, example.contains(shown));
        }
    }

    private static void theTests(String readme) throws IOException {
        DUE.holds("README.md tells how the tests are run", readme.contains("\n    .ci/run\n"));
        Set<String> told = new TreeSet<>();
        Matcher line = NAMED_TEST.matcher(readme);
        while (line.find()) {
            told.add(line.group(1));
        }
        Set<String> due = new TreeSet<>();
        try (DirectoryStream<Path> files = Files.newDirectoryStream(TESTS, "*Test.java")) {
            for (Path file : files) {
                due.add(file.getFileName().toString().replace(".java", ""));
            }
        }
        DUE.holds("the tests are " + due + ": " + told, told.equals(due));
    }
}
