import java.io.IOException;
import java.lang.reflect.Field;
import java.lang.reflect.Method;
import java.lang.reflect.Modifier;
import java.nio.file.Files;
import java.nio.file.Path;
import java.util.Set;
import java.util.TreeSet;
import java.util.regex.Matcher;
import java.util.regex.Pattern;

/** The rules of LANGUAGE.md that a text and its class can tell: the face, words, sizes. */
public final class LanguageTest {
    private static final Due due = new Due("LanguageTest");
    private static final String[] FACE = {"int letter 1", "int table 0", "int kind 3", "int verb 2",
        "int drops 1", "int copies 2", "int route 2", "int segment 2", "int nodes 1", "int letterOf 2",
        "int match 2", "int bound 3", "int looked 2", "int verbs 1", "int brought 2", "int never 0",
        "int matched 1", "int witness 2", "int clash 1", "int build 5", "int back 1", "int without 3",
        "int best 1", "long lost 4", "long mean 2", "int whatIs 2", "int row 1", "int judge 1",
        "int clear 0", "int lots 3", "int image 0", "int on 0", "int count 1"};
    private static final String[] FORBIDDEN = {"throw", "throws", "try", "catch", "synchronized", "assert",
        "import", "package", "instanceof", "while", "record", "Object", "Class", "Thread", "System.out",
        "Exact", "hashCode", "toString", "float", "double", "->", "::", "\" \\+", "\\+ \"", "@"};

    public static void main(String[] args) throws IOException {
        face();
        Path source = Path.of("src/main/java/RoutesByTries.java");
        String code = Files.readString(source).replaceAll("(?s)/\\*.*?\\*/", "").replaceAll("//[^\n]*", "");
        words(code);
        sizes(code);
        due.end();
    }

    private static void face() {
        Set<String> want = new TreeSet<>(Set.of(FACE));
        Set<String> got = new TreeSet<>();
        Set<String> names = new TreeSet<>();
        for (Method m : RoutesByTries.class.getDeclaredMethods()) {
            if (Modifier.isPublic(m.getModifiers())) {
                got.add(m.getReturnType() + " " + m.getName() + " " + m.getParameterCount());
                names.add(m.getName());
            } else {
                due.is(m.getName() + " is private", Modifier.isPrivate(m.getModifiers()) ? 1 : 0, 1);
            }
        }
        due.is("the face is " + got, got.equals(want) ? 1 : 0, 1);
        due.is("final", Modifier.isFinal(RoutesByTries.class.getModifiers()) ? 1 : 0, 1);
        due.is("constructors", RoutesByTries.class.getDeclaredConstructors().length, 1);
        due.is("classes at most 12", RoutesByTries.class.getDeclaredClasses().length <= 11 ? 1 : 0, 1);
        inside(RoutesByTries.class, names);
        for (Class<?> c : RoutesByTries.class.getDeclaredClasses()) {
            due.is(c + " is static", Modifier.isStatic(c.getModifiers()) ? 1 : 0, 1);
            due.is(c + " is not public", c.getModifiers() & (Modifier.PUBLIC | Modifier.PROTECTED), 0);
            inside(c, names);
        }
    }

    private static void inside(Class<?> c, Set<String> names) {
        int fields = 0;
        for (Field f : c.getDeclaredFields()) {
            boolean fixed = Modifier.isStatic(f.getModifiers());
            due.is(f + " static, so final", fixed && !Modifier.isFinal(f.getModifiers()) ? 0 : 1, 1);
            due.is(f + " is private", Modifier.isPrivate(f.getModifiers()) ? 1 : 0, 1);
            fields += fixed ? 0 : 1;
        }
        due.is(c + " has at most twenty fields", fields <= 20 ? 1 : 0, 1);
        for (Method m : c.getDeclaredMethods()) {
            boolean hidden = !Modifier.isPublic(m.getModifiers());
            due.is(m + " bears a name of the face", hidden && names.contains(m.getName()) ? 1 : 0, 0);
            due.is(m + " takes at most seven", m.getParameterCount() <= 7 ? 1 : 0, 1);
        }
    }

    private static void words(String code) {
        for (String word : FORBIDDEN) {
            boolean name = Character.isLetter(word.charAt(0));
            Matcher found = Pattern.compile(name ? "\\b" + word + "\\b" : word).matcher(code);
            due.is("the word " + word, found.find() ? 1 : 0, 0);
        }
        due.is("signs above 127", code.chars().filter(c -> c > 127).count(), 0);
    }

    /** A method ends where its closing brace stands as far in as its first line. */
    private static void sizes(String code) {
        String[] lines = code.split("\n");
        Pattern head = Pattern.compile("^( {4}| {8})(\\w[^;=]*)\\) \\{$");
        int methods = 0;
        for (int i = 0; i < lines.length; i++) {
            Matcher m = head.matcher(lines[i]);
            if (m.find()) {
                int end = i;
                while (!lines[end].equals(m.group(1) + "}")) {
                    end++;
                }
                methods++;
                due.is("at most sixty lines: " + lines[i].trim(), end - i < 60 ? 1 : 0, 1);
            }
        }
        due.is("methods were found", methods > 60 ? 1 : 0, 1);
    }
}
