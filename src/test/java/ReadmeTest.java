import java.io.IOException;
import java.io.UncheckedIOException;
import java.lang.reflect.Method;
import java.lang.reflect.Modifier;
import java.nio.file.Files;
import java.nio.file.Path;
import java.util.ArrayList;
import java.util.List;
import java.util.TreeSet;
import java.util.regex.Matcher;
import java.util.regex.Pattern;
import java.util.stream.Stream;

/** What README.md says is so; it is run from the project's own directory, as .ci/run does. */
public final class ReadmeTest {
    private static final Path README = Path.of("README.md");
    private static final Path TESTS = Path.of("src/test/java");
    private static final String CLASS_FILE = "src/main/java/WheelProducts.java";
    private static final Pattern PRINTED = Pattern.compile("println\\(.*\\);\\s+// (.*)");
    private static final Pattern CALL = Pattern.compile("\\| `(\\w+)\\(([^)]*)\\)` \\|.*");
    private static final Pattern TEST = Pattern.compile("\\| `(\\w+Test)` \\|.*");

    public static void main(String[] args) {
        Checks.sentence("README: its example answers as it says", ReadmeTest::example);
        Checks.sentence("README: its example makes every call", ReadmeTest::exampleMakesEveryCall);
        Checks.sentence("README: its table has every call of the face, and no other", ReadmeTest::calls);
        Checks.sentence("README: its table has every test, and no other", ReadmeTest::tests);
        Checks.sentence("README: the command that runs the tests", ReadmeTest::command);
        Checks.end();
    }

    /** The commands are run as they stand, where only what they speak of is there. */
    private static void example() {
        List<String> example = blocks("java").get(0);
        List<String> due = matches(PRINTED, example, 1);
        Checks.same("answers are told", due.isEmpty(), false);
        Checks.same("every printed answer is told", due.size(), count(example, "println("));
        try {
            Path place = Files.createTempDirectory("readme");
            try {
                Checks.same("the example prints", printed(place, example), due);
            } finally {
                remove(place);
            }
        } catch (IOException e) {
            throw new UncheckedIOException(e);
        }
    }

    private static List<String> printed(Path place, List<String> example) throws IOException {
        Files.createDirectories(place.resolve(CLASS_FILE).getParent());
        Files.copy(Path.of(CLASS_FILE), place.resolve(CLASS_FILE));
        Files.write(place.resolve("Example.java"), example);
        String commands = String.join("\n", blocks("sh").get(0));
        Path printed = place.resolve("printed");
        // Java tells of its settings on the error stream on some machines: that is no answer.
        Process process = new ProcessBuilder("sh", "-e", "-c", commands).directory(place.toFile())
            .redirectError(ProcessBuilder.Redirect.INHERIT).redirectOutput(printed.toFile()).start();
        try {
            Checks.same("exit code of the commands", process.waitFor(), 0);
        } catch (InterruptedException e) {
            throw new IllegalStateException(e);
        }
        return Files.readAllLines(printed);
    }

    private static void remove(Path place) throws IOException {
        List<Path> found = new ArrayList<>();
        try (Stream<Path> all = Files.walk(place)) {
            all.forEach(found::add);
        }
        for (int k = found.size() - 1; k >= 0; k--) {
            Files.delete(found.get(k));
        }
    }

    private static void exampleMakesEveryCall() {
        for (Method method : face()) {
            int made = count(blocks("java").get(0), "x." + method.getName() + "(");
            Checks.same(method.getName() + " is called", made > 0, true);
        }
    }

    private static void calls() {
        List<String> told = new ArrayList<>();
        List<String> names = matches(CALL, lines(), 1);
        List<String> parameters = matches(CALL, lines(), 2);
        for (int k = 0; k < names.size(); k++) {
            told.add(names.get(k) + " " + parameters.get(k).split(", ").length);
        }
        List<String> due = new ArrayList<>();
        for (Method method : face()) {
            due.add(method.getName() + " " + method.getParameterCount());
        }
        Checks.same("calls and how much they are given", sorted(told), sorted(due));
    }

    private static List<Method> face() {
        List<Method> methods = new ArrayList<>();
        for (Method method : WheelProducts.class.getDeclaredMethods()) {
            if (Modifier.isPublic(method.getModifiers())) {
                methods.add(method);
            }
        }
        return methods;
    }

    private static void tests() {
        List<String> due = new ArrayList<>();
        try (Stream<Path> files = Files.list(TESTS)) {
            files.map(file -> file.getFileName().toString()).filter(name -> name.endsWith("Test.java"))
                .forEach(name -> due.add(name.replace(".java", "")));
        } catch (IOException e) {
            throw new UncheckedIOException(e);
        }
        Checks.same("tests", sorted(matches(TEST, lines(), 1)), sorted(due));
    }

    /** That it runs the tests is seen by this one running; here, that it is the one named. */
    private static void command() {
        List<String> commands = blocks("sh").get(1);
        Checks.same("commands", commands, List.of(".ci/run"));
        Checks.same(".ci/run can be run", Files.isExecutable(Path.of(".ci/run")), true);
    }

    private static List<String> lines() {
        try {
            return Files.readAllLines(README);
        } catch (IOException e) {
            throw new UncheckedIOException(e);
        }
    }

    /** The blocks of a language, in their order. */
    private static List<List<String>> blocks(String language) {
        List<List<String>> blocks = new ArrayList<>();
        List<String> open = null;
        for (String line : lines()) {
            if (line.equals("```" + language)) {
                open = new ArrayList<>();
                blocks.add(open);
            } else if (line.equals("```")) {
                open = null;
            } else if (open != null) {
                open.add(line);
            }
        }
        return blocks;
    }

    private static List<String> matches(Pattern pattern, List<String> lines, int group) {
        List<String> found = new ArrayList<>();
        for (String line : lines) {
            Matcher matcher = pattern.matcher(line);
            if (matcher.find()) {
                found.add(matcher.group(group));
            }
        }
        return found;
    }

    private static int count(List<String> lines, String part) {
        int count = 0;
        for (String line : lines) {
            count += line.contains(part) ? 1 : 0;
        }
        return count;
    }

    private static List<String> sorted(List<String> texts) {
        return new ArrayList<>(new TreeSet<>(texts));
    }
}
