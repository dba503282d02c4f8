import java.io.IOException;
import java.nio.file.Files;
import java.nio.file.Path;
import java.util.regex.Matcher;
import java.util.regex.Pattern;

/** README.md: its example answers as it says, and it names every call. */
public final class ReadmeTest {
    private static final Due due = new Due("ReadmeTest");
    private static final Pattern TABLE = Pattern.compile("String text = \"([^\"]*)\";");
    private static final Pattern CALL = Pattern.compile("x\\.(\\w+)\\(([-\\d, ]*)\\);\\s*// (-?\\d+):");

    public static void main(String[] args) throws IOException {
        String readme = Files.readString(Path.of("README.md"));
        example(readme);
        names(readme);
        due.end();
    }

    private static void example(String readme) {
        RoutesByTries x = new RoutesByTries();
        int calls = 0;
        for (String line : readme.split("\n")) {
            Matcher table = TABLE.matcher(line);
            if (table.find()) {
                table.group(1).chars().forEach(x::letter);
            }
            Matcher call = CALL.matcher(line);
            if (call.find()) {
                due.is(line.trim(), Calls.call(x, call.group(1), numbers(call.group(2))), Long.parseLong(call.group(3)));
                calls++;
            }
        }
        due.is("calls of the example", calls, 10);
    }

    private static int[] numbers(String told) {
        return Pattern.compile("-?\\d+").matcher(told).results().mapToInt(m -> Integer.parseInt(m.group())).toArray();
    }

    private static void names(String readme) {
        for (var method : RoutesByTries.class.getDeclaredMethods()) {
            if (java.lang.reflect.Modifier.isPublic(method.getModifiers())) {
                due.is("`" + method.getName() + "` is named", readme.contains("`" + method.getName() + "`") ? 1 : 0, 1);
            }
        }
    }
}
