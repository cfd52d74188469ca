import java.io.IOException;
import java.lang.reflect.Method;
import java.lang.reflect.Modifier;
import java.nio.file.Files;
import java.nio.file.Path;
import java.util.ArrayList;
import java.util.List;
import java.util.regex.Matcher;
import java.util.regex.Pattern;
import java.util.stream.Stream;

/** README.md: its examples, and that it speaks of every call of the face and of how to run every test. */
public final class ReadmeTest {
    private static final Path README = Path.of("README.md");
    private static final Path TESTS = Path.of("src/test");
    private static final String BEGINS = "Ramseyward ward = new Ramseyward();";
    private static final Pattern EXAMPLE = Pattern.compile("ward\\.(\\w+\\(.*?\\)); +// (throws )?([^ :]+)(: .*)?");

    public static void main(String[] args) throws IOException {
        List<String> lines = Files.readAllLines(README);
        String text = String.join("\n", lines);
        checkExamples(lines);
        checkCalls(text);
        checkHowToTest(text);
        Check.end("ReadmeTest");
    }

    /** Each block of Java is one run on a new object. */
    private static void checkExamples(List<String> lines) {
        int runs = 0;
        for (int at = 0; at < lines.size(); at++) {
            if (!lines.get(at).equals("```java")) {
                continue;
            }
            Check.same("README.md:" + (at + 2), lines.get(at + 1), BEGINS);
            List<String> calls = new ArrayList<>();
            for (int line = at + 2; line < lines.size() && !lines.get(line).equals("```"); line++) {
                calls.add(callOf("README.md:" + (line + 1), lines.get(line)));
            }
            new Run(String.join("; ", calls)).check("the example at README.md:" + (at + 1));
            runs++;
        }
        Check.same("there are examples", runs > 0, true);
    }

    private static String callOf(String what, String line) {
        Matcher example = EXAMPLE.matcher(line);
        if (!Check.same(what + " is a call with its answer", example.matches(), true)) {
            return "number()";
        }
        return example.group(1) + " = " + (example.group(2) == null ? "" : "throws.") + example.group(3);
    }

    private static void checkCalls(String text) {
        for (Method call : Ramseyward.class.getDeclaredMethods()) {
            if (Modifier.isPublic(call.getModifiers())) {
                String name = call.getName();
                Check.same(name + " has an example", text.contains("\nward." + name + "("), true);
            }
        }
    }

    private static void checkHowToTest(String text) throws IOException {
        String section = text.substring(Math.max(0, text.indexOf("## Running its tests")));
        Check.same("how to run the tests is said", section.contains("\n.ci/run\n"), true);
        try (Stream<Path> files = Files.walk(TESTS)) {
            for (Path file : files.filter(Files::isRegularFile).toList()) {
                String name = TESTS.relativize(file).toString().replaceFirst("\\.java$", "");
                Check.same(name + " is spoken of", section.contains("`" + name + "`"), true);
            }
        }
    }
}
