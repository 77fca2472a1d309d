import java.io.IOException;
import java.nio.file.DirectoryStream;
import java.nio.file.Files;
import java.nio.file.Path;
import java.util.Map;
import java.util.TreeMap;
import java.util.regex.Matcher;
import java.util.regex.Pattern;

/** Every sentence of the document's terms and promises is one that a test names by its words, and no test names others. */
public final class SentencesTest {
    private static final Path DOCUMENT = Path.of("../shared/DOC.md");
    private static final Path TESTS = Path.of("src/test/java");
    private static final Pattern PROMISE = Pattern.compile("Promise (\\d+):.*");
    private static final Pattern NAMED = Pattern.compile("Bench\\.sentence\\((Bench\\.TERMS|\\d+), \"((?:[^\"\\\\]|\\\\.)*)\"\\)");
    private static final Pattern LEFT = Pattern.compile("[^\\s_][^_]*");

    private static int wrong = 0;

    public static void main(String[] args) throws IOException {
        if (!Files.isReadable(DOCUMENT)) {
            System.out.println("there is no document to hold the tests against");
            return;
        }
        Map<Integer, String> sections = sections(Files.readString(DOCUMENT));
        Map<Integer, String> left = new TreeMap<>(sections);
        try (DirectoryStream<Path> tests = Files.newDirectoryStream(TESTS, "*.java")) {
            for (Path test : tests) {
                // Words that are parted over two lines are one text.
                Matcher named = NAMED.matcher(Files.readString(test).replaceAll("\"\\s*\\+ \"", ""));
                while (named.find()) {
                    int section = named.group(1).equals("Bench.TERMS") ? Bench.TERMS : Integer.parseInt(named.group(1));
                    strike(test, section, named.group(2).replace("\\\"", "\""), sections, left);
                }
            }
        }
        for (Map.Entry<Integer, String> section : left.entrySet()) {
            Matcher words = LEFT.matcher(section.getValue());
            while (words.find()) {
                tell("no test names, of section " + section.getKey() + ": " + words.group());
            }
        }
        if (wrong != 0) {
            System.exit(1);
        }
    }

    private static void tell(String what) {
        wrong++;
        System.out.println(what);
    }

    /** The words of the terms (0) and of each promise, in one line each, without the methods' heads. */
    private static Map<Integer, String> sections(String document) {
        Map<Integer, String> made = new TreeMap<>();
        for (String section : document.split("\n## ")) {
            int end = section.indexOf('\n');
            String title = section.substring(0, Math.max(end, 0));
            Matcher promise = PROMISE.matcher(title);
            String words = section.substring(end + 1).replaceAll("\\s+", " ").trim();
            if (title.equals("Terms")) {
                made.put(Bench.TERMS, words);
            } else if (promise.matches()) {
                made.put(Integer.parseInt(promise.group(1)), words.replaceFirst("^`[^`]*`: ", ""));
            }
        }
        return made;
    }

    /** Puts lines in the place of a sentence in what is left. */
    private static void strike(Path test, int section, String sentence, Map<Integer, String> sections, Map<Integer, String> left) {
        String all = sections.getOrDefault(section, "");
        int at = all.indexOf(sentence);
        if (at < 0 || all.indexOf(sentence, at + 1) >= 0) {
            tell(test + " names what the document does not say just once in section " + section + ": " + sentence);
            return;
        }
        String before = left.get(section);
        left.put(section, before.substring(0, at) + "_".repeat(sentence.length()) + before.substring(at + sentence.length()));
    }
}
