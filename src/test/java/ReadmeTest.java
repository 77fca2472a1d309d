import java.io.IOException;
import java.lang.reflect.Field;
import java.lang.reflect.Method;
import java.lang.reflect.Modifier;
import java.nio.file.DirectoryStream;
import java.nio.file.Files;
import java.nio.file.Path;
import java.util.regex.Matcher;
import java.util.regex.Pattern;

/** README.md: the calls it shows answer what it says, and it leaves out no call, no constant and no test. */
public final class ReadmeTest {
    private static final Path TESTS = Path.of("src/test/java");
    private static final Pattern EXAMPLE = Pattern.compile("```java\n(.*?)```", Pattern.DOTALL);
    private static final Pattern CALL = Pattern.compile("x\\.(\\w+)\\((.*)\\); +// (-?\\w+)(: .+)?");
    private static final String BEGIN = "ArchiveBench x = new ArchiveBench();";

    public static void main(String[] args) throws IOException, ReflectiveOperationException {
        String text = Files.readString(Path.of("README.md"));
        examples(text);
        calls(text);
        constants(text);
        tests(text);
        Bench.end();
    }

    private static void examples(String text) throws ReflectiveOperationException {
        int seen = 0;
        Matcher example = EXAMPLE.matcher(text);
        while (example.find()) {
            String[] lines = example.group(1).split("\n");
            same("an example's first line", lines[0], BEGIN);
            ArchiveBench x = new ArchiveBench();
            for (int i = 1; i < lines.length; i++) {
                dueCall(x, lines[i]);
            }
            seen++;
        }
        Bench.due("there is an example", seen > 0 ? 1 : 0, 1);
    }

    private static void dueCall(ArchiveBench x, String line) throws ReflectiveOperationException {
        Matcher call = CALL.matcher(line);
        if (!call.matches()) {
            Bench.due("a line that is no call with its answer: " + line, 0, 1);
            return;
        }
        String[] words = call.group(2).isEmpty() ? new String[0] : call.group(2).split(", ");
        Class<?>[] types = new Class<?>[words.length];
        Object[] numbers = new Object[words.length];
        for (int i = 0; i < words.length; i++) {
            types[i] = int.class;
            numbers[i] = number(words[i]);
        }
        Object got = ArchiveBench.class.getMethod(call.group(1), types).invoke(x, numbers);
        Bench.due(line, (Integer) got, number(call.group(3)));
    }

    /** A number, a character in its marks, or a constant of the class. */
    private static int number(String word) throws ReflectiveOperationException {
        if (word.startsWith("'")) {
            return word.charAt(1);
        }
        if (Character.isLetter(word.charAt(0))) {
            return ArchiveBench.class.getField(word.replace("ArchiveBench.", "")).getInt(null);
        }
        return Integer.parseInt(word);
    }

    private static void calls(String text) {
        for (Method method : ArchiveBench.class.getDeclaredMethods()) {
            if (Modifier.isPublic(method.getModifiers())) {
                Matcher row = Pattern.compile("\\| `" + method.getName() + "\\((.*?)\\)` \\|").matcher(text);
                int parameters = !row.find() ? -1 : row.group(1).isEmpty() ? 0 : row.group(1).split(", ").length;
                Bench.due("what the table of calls says " + method.getName() + " takes", parameters, method.getParameterCount());
            }
        }
    }

    private static void constants(String text) {
        for (Field field : ArchiveBench.class.getFields()) {
            dueTold(text, field.getName());
        }
    }

    private static void tests(String text) throws IOException {
        try (DirectoryStream<Path> tests = Files.newDirectoryStream(TESTS, "*.java")) {
            for (Path test : tests) {
                dueTold(text, test.getFileName().toString().replace(".java", ""));
            }
        }
    }

    private static void dueTold(String text, String name) {
        Bench.due(name + " is told", text.contains("`" + name + "`") ? 1 : 0, 1);
    }

    private static void same(String what, String got, String want) {
        Bench.due(what + " " + got + " instead of " + want, got.equals(want) ? 1 : 0, 1);
    }
}
