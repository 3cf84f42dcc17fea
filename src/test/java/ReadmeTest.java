import java.io.IOException;
import java.lang.reflect.Method;
import java.lang.reflect.Modifier;
import java.nio.file.Files;
import java.nio.file.Path;
import java.util.Collections;
import java.util.List;
import java.util.regex.Matcher;
import java.util.regex.Pattern;
import java.util.stream.Collectors;
import java.util.stream.Stream;

/** README.md is as true as the class: its examples answer as they say, and no call and no test is left out. */
public final class ReadmeTest {

    private static final Path PAGE = Path.of("README.md");
    private static final Path TESTS = Path.of("src/test/java");
    private static final Pattern TOLD = Pattern.compile("tell\\(x, \"([^\"]*)\"\\); +// (-?\\d+)");
    private static final Pattern CALLED = Pattern.compile("x\\.(\\w+)\\(([-\\d, ]*)\\); *// (-?\\d+)");

    public static void main(String[] args) throws IOException {
        List<String> lines = Files.readAllLines(PAGE);
        examples(lines);
        names(String.join("\n", lines));
        Due.finish("ReadmeTest");
    }

    private static void examples(List<String> lines) {
        HalfScales x = null;
        int made = 0;
        for (String line : lines) {
            if (line.startsWith("HalfScales x = new")) {
                x = new HalfScales();
                made++;
            } else if (x != null && line.startsWith("```")) {
                x = null;
            } else if (x != null) {
                example(x, line);
            }
        }
        Due.is("examples", made, 3);
    }

    private static void example(HalfScales x, String line) {
        Matcher told = TOLD.matcher(line);
        Matcher called = CALLED.matcher(line);
        if (told.matches()) {
            Due.is(line, Due.told(x, told.group(1)), Long.parseLong(told.group(2)));
        } else if (called.matches()) {
            int[] row = Stream.of(called.group(2).split(", *")).filter(s -> !s.isEmpty())
                .mapToInt(Integer::parseInt).toArray();
            Due.is(line, Run.call(x, called.group(1), row), Long.parseLong(called.group(3)));
        } else {
            Due.holds("an example can be read: " + line, false);
        }
    }

    private static void names(String page) throws IOException {
        for (Method method : HalfScales.class.getDeclaredMethods()) {
            if (Modifier.isPublic(method.getModifiers())) {
                String row = String.join(", ", Collections.nCopies(method.getParameterCount(), "\\w+"));
                Pattern call = Pattern.compile("`" + method.getName() + "\\(" + row + "\\)`");
                Due.holds("the page has " + call, call.matcher(page).find());
            }
        }
        try (Stream<Path> files = Files.list(TESTS)) {
            for (String name : files.map(f -> f.getFileName().toString()).collect(Collectors.toList())) {
                if (name.endsWith("Test.java")) {
                    String row = "| " + name.replace(".java", "") + " |";
                    Due.holds("the page has " + row, page.contains(row));
                }
            }
        }
    }
}
