import java.io.IOException;
import java.lang.reflect.Method;
import java.lang.reflect.Modifier;
import java.nio.file.Files;
import java.nio.file.Path;
import java.util.List;
import java.util.regex.Matcher;
import java.util.regex.Pattern;

/** What README.md shows is so: its examples, run in their order on one object, answer as it says. */
public final class ReadmeTest {
    private static final Check CHECK = new Check("ReadmeTest");
    private static final Pattern CALL = Pattern.compile("x\\.(\\w+)\\(([^)]*)\\);  // (NONE|-?\\d+)\\b.*");
    private static final Pattern TOLD = Pattern.compile("tell\\(x, \"([^\"]*)\"\\);  // (-?\\d+)\\b.*");

    private final MissingMeaning x = new MissingMeaning();
    private final String example;

    private ReadmeTest(String example) {
        this.example = example;
    }

    public static void main(String[] args) throws IOException {
        String readme = Files.readString(Path.of("README.md"));
        ReadmeTest test = new ReadmeTest(between(readme, "```text\n", "```"));
        for (String line : readme.lines().toList()) {
            test.run(line);
        }
        everyCallIsNamed(readme);
        CHECK.finish();
    }

    private static String between(String text, String start, String end) {
        int from = text.indexOf(start) + start.length();
        return text.substring(from, text.indexOf(end, from));
    }

    private void run(String line) {
        Matcher call = CALL.matcher(line);
        Matcher told = TOLD.matcher(line);
        if (call.matches()) {
            long want = call.group(3).equals("NONE") ? MissingMeaning.NONE : Long.parseLong(call.group(3));
            CHECK.due(line, Calls.answer(x, call.group(1), numbers(call.group(2))), want);
        } else if (told.matches()) {
            String text = told.group(1).equals("the book above") ? example : told.group(1);
            CHECK.due(line, Books.tell(x, text), Long.parseLong(told.group(2)));
        } else {
            CHECK.that("an example is no call: " + line, !line.startsWith("x.") && !line.startsWith("tell("));
        }
    }

    private static int[] numbers(String arguments) {
        if (arguments.isEmpty()) {
            return new int[0];
        }
        List<String> parts = List.of(arguments.split(", "));
        return parts.stream().mapToInt(Integer::decode).toArray();
    }

    private static void everyCallIsNamed(String readme) {
        for (Method m : MissingMeaning.class.getDeclaredMethods()) {
            if (Modifier.isPublic(m.getModifiers())) {
                CHECK.that("README.md shows " + m.getName(), readme.contains("x." + m.getName() + "("));
            }
        }
    }
}
