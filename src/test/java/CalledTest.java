import java.io.IOException;
import java.nio.file.Files;
import java.nio.file.Path;
import java.util.List;
import java.util.regex.Matcher;
import java.util.regex.Pattern;
import java.util.stream.Collectors;
import java.util.stream.Stream;

/** Every function that the tests or the class hold is called: one that is written but not run tests nothing. */
public final class CalledTest {
    private static final Due due = new Due("CalledTest");
    private static final Pattern HEAD = Pattern.compile("^ +(?:private )?(?:static )?(?!private )[\\w<>\\[\\]]+ (\\w+)\\([^;{]*\\{$", Pattern.MULTILINE);

    public static void main(String[] args) throws IOException {
        for (String folder : new String[] {"src/main/java", "src/test/java"}) {
            for (Path file : files(folder)) {
                called(file);
            }
        }
        due.end();
    }

    private static List<Path> files(String folder) throws IOException {
        try (Stream<Path> found = Files.list(Path.of(folder))) {
            return found.sorted().collect(Collectors.toList());
        }
    }

    /** Helpers that another file calls are looked for in all of them. */
    private static void called(Path file) throws IOException {
        String code = Files.readString(file);
        Matcher head = HEAD.matcher(code);
        while (head.find()) {
            boolean hidden = head.group().contains("private ");
            String where = hidden ? code : all();
            Matcher call = Pattern.compile("\\b" + head.group(1) + "\\(|::" + head.group(1) + "\\b").matcher(where);
            due.is(file.getFileName() + ": " + head.group(1) + " is called", call.results().count() > 1 ? 1 : 0, 1);
        }
    }

    private static String all() throws IOException {
        StringBuilder code = new StringBuilder();
        for (String folder : new String[] {"src/main/java", "src/test/java"}) {
            for (Path file : files(folder)) {
                code.append(Files.readString(file));
            }
        }
        return code.toString();
    }
}
