import java.io.ByteArrayOutputStream;
import java.io.IOException;
import java.io.PrintStream;
import java.lang.reflect.Method;
import java.lang.reflect.Modifier;
import java.nio.charset.StandardCharsets;
import java.nio.file.Files;
import java.nio.file.Path;
import java.util.ArrayList;
import java.util.Arrays;
import java.util.List;
import java.util.Set;
import java.util.TreeSet;
import java.util.regex.Matcher;
import java.util.regex.Pattern;

/** README.md: its example, the calls and the tests that it tells; run from the project's folder. */
final class ReadmeTest {
    private static final Path TESTS = Path.of("src/test/java");

    private ReadmeTest() {
    }

    public static void main(String[] args) throws IOException {
        String readme = read(Path.of("README.md"));
        example(readme);
        calls(readme);
        tests(readme);
        Due.end("ReadmeTest");
    }

    private static String read(Path file) throws IOException {
        return Files.readString(file, StandardCharsets.UTF_8);
    }

    // That it compiles is seen as this test is compiled together with Example.java.
    private static void example(String readme) throws IOException {
        String program = read(TESTS.resolve("Example.java"));
        String shown = all("(?s)```java\n(.*?)```", readme).get(0);
        Due.is("the example shown", shown, program.substring(program.indexOf("public final class")));
        List<String> due = all("System\\.out\\.println\\(.*\\); +// ([^:\n]+)", shown);
        Due.is("answers that the example tells", due.size(), all("(println)", shown).size());
        Due.is("the example's answers", printed(), due);
    }

    private static List<String> printed() {
        PrintStream before = System.out;
        ByteArrayOutputStream bytes = new ByteArrayOutputStream();
        System.setOut(new PrintStream(bytes, true, StandardCharsets.UTF_8));
        Example.main(new String[0]);
        System.setOut(before);
        return Arrays.asList(bytes.toString(StandardCharsets.UTF_8).split("\\R"));
    }

    private static void calls(String readme) {
        Set<String> face = new TreeSet<>();
        for (Method method : DoorChase.class.getDeclaredMethods()) {
            if (Modifier.isPublic(method.getModifiers())) {
                face.add(FaceTest.told(method));
            }
        }
        Set<String> told = new TreeSet<>();
        Matcher rows = Pattern.compile("(?m)^\\| `(\\w+ \\w+)\\((.*?)\\)` \\| .+ \\|(.*)\\|$").matcher(readme);
        while (rows.find()) {
            told.add(rows.group(1) + "(" + types(rows.group(2)) + ") " + exceptions(rows.group(3)));
        }
        Due.is("the calls told", told, face);
    }

    private static String types(String parameters) {
        return parameters.replaceAll("(\\w+) \\w+(, )?", "$1,").replaceAll(",$", "");
    }

    private static String exceptions(String told) {
        String letters = String.join(",", all("\\b([IAS]):", told));
        return letters.replace("I", "IndexOutOfBoundsException").replace("A", "IllegalArgumentException")
                .replace("S", "IllegalStateException");
    }

    private static void tests(String readme) throws IOException {
        Set<String> there = new TreeSet<>();
        try (var files = Files.list(TESTS)) {
            files.map(file -> file.getFileName().toString()).filter(name -> name.endsWith("Test.java"))
                    .forEach(name -> there.add(name.replace(".java", "")));
        }
        Due.is("the tests told", new TreeSet<>(all("(?m)^\\| `(\\w+Test)` \\|", readme)), there);
    }

    private static List<String> all(String pattern, String text) {
        List<String> found = new ArrayList<>();
        Matcher matcher = Pattern.compile(pattern).matcher(text);
        while (matcher.find()) {
            found.add(matcher.group(1));
        }
        return found;
    }
}
