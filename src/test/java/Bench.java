import java.util.ArrayList;
import java.util.List;

/** What the tests share: asking for answers, writing files and images, and the sums and checks of bytes. */
final class Bench {
    /** The document's section of words that all promises use. */
    static final int TERMS = 0;

    private static int wrong = 0;
    private static int asked = 1;
    private static String sentence = "";

    private Bench() {
    }

    /** Begins the test of a sentence, told by the number of its promise and its words in the document. */
    static void sentence(int promise, String words) {
        endSentence();
        sentence = (promise == TERMS ? "Terms" : "Promise " + promise) + " \"" + words + "\": ";
        asked = 0;
    }

    private static void endSentence() {
        if (asked == 0) {
            wrong++;
            System.out.println(sentence + "nothing was asked");
        }
    }

    static void due(String what, int got, int want) {
        asked++;
        if (got != want) {
            wrong++;
            System.out.println(sentence + what + " answered " + got + ", due is " + want);
        }
    }

    static void due(String what, List<Integer> got, List<Integer> want) {
        asked++;
        if (!got.equals(want)) {
            wrong++;
            System.out.println(sentence + what + " answered " + got + ", due is " + want);
        }
    }

    static void end() {
        endSentence();
        if (wrong != 0) {
            System.out.println(wrong + " answers are not as due");
            System.exit(1);
        }
    }

    static void writeName(ArchiveBench x, String name) {
        for (int i = 0; i < name.length(); i++) {
            due("name of " + name, x.name(name.charAt(i)), i + 1);
        }
    }

    static void writeBytes(ArchiveBench x, List<Integer> bytes) {
        for (int i = 0; i < bytes.size(); i++) {
            due("data " + i, x.data(bytes.get(i), 1), i + 1);
        }
    }

    static void writeFile(ArchiveBench x, String name, int method, int... bytes) {
        int number = x.count(0);
        writeName(x, name);
        writeBytes(x, list(bytes));
        due("add " + name, x.add(method), number);
    }

    static void writeImage(ArchiveBench x, List<Integer> bytes) {
        x.cut(0);
        for (int i = 0; i < bytes.size(); i++) {
            due("put at " + i, x.put(i, bytes.get(i)), i + 1);
        }
    }

    static List<Integer> imageOf(ArchiveBench x) {
        List<Integer> bytes = new ArrayList<>();
        int length = x.count(1);
        for (int i = 0; i < length; i++) {
            bytes.add(x.image(i));
        }
        return bytes;
    }

    static List<Integer> takenOf(ArchiveBench x) {
        List<Integer> bytes = new ArrayList<>();
        int length = x.count(5);
        for (int i = 0; i < length; i++) {
            bytes.add(x.taken(i));
        }
        return bytes;
    }

    /** Answers that tell of the state without changing it; of a long image only some, for an object has 512 calls. */
    static List<Integer> stateOf(ArchiveBench x) {
        List<Integer> state = new ArrayList<>();
        for (int what = 0; what <= 5; what++) {
            state.add(x.count(what));
        }
        state.add(x.place());
        for (int i = 0; i < state.get(1); i += 1 + state.get(1) / 60) {
            state.add(x.image(i));
        }
        state.addAll(takenOf(x));
        for (int file = 0; file < state.get(2); file++) {
            for (int what = 0; what <= 5; what++) {
                state.add(x.file(file, what));
            }
            state.add(x.file(file, 16));
        }
        return state;
    }

    /** Demands an opening that comes to a number of files. */
    static void dueOpen(String what, ArchiveBench x, int files) {
        due(what + ": open", x.open(), files);
        due(what + ": place", x.place(), ArchiveBench.REFUSED);
        due(what + ": open files", x.count(2), files);
    }

    /** Demands an opening that fails at a place. */
    static void dueEnd(String what, ArchiveBench x, int answer, int place) {
        due(what + ": open", x.open(), answer);
        due(what + ": place", x.place(), place);
        due(what + ": open files", x.count(2), 0);
        due(what + ": a file", x.file(0, 0), ArchiveBench.REFUSED);
    }

    /** An object with an image of these rows, one behind the other. */
    static ArchiveBench with(List<?>... rows) {
        ArchiveBench x = new ArchiveBench();
        writeImage(x, joined(rows));
        return x;
    }

    static List<Integer> changed(List<Integer> row, int i, int b) {
        List<Integer> made = joined(row);
        made.set(i, b);
        return made;
    }

    static List<Integer> list(int... bytes) {
        List<Integer> made = new ArrayList<>();
        for (int b : bytes) {
            made.add(b);
        }
        return made;
    }

    /** 0, 1, 2 and so on: a row in which no byte comes twice. */
    static List<Integer> counting(int n) {
        List<Integer> made = new ArrayList<>();
        for (int i = 0; i < n; i++) {
            made.add(i);
        }
        return made;
    }

    static int[] array(List<Integer> bytes) {
        int[] made = new int[bytes.size()];
        for (int i = 0; i < made.length; i++) {
            made[i] = bytes.get(i);
        }
        return made;
    }

    static List<Integer> times(int b, int n) {
        List<Integer> made = new ArrayList<>();
        for (int i = 0; i < n; i++) {
            made.add(b);
        }
        return made;
    }

    static List<Integer> joined(List<?>... rows) {
        List<Integer> made = new ArrayList<>();
        for (List<?> row : rows) {
            for (Object b : row) {
                made.add((Integer) b);
            }
        }
        return made;
    }

    static List<Integer> characters(String name) {
        List<Integer> made = new ArrayList<>();
        for (char c : name.toCharArray()) {
            made.add((int) c);
        }
        return made;
    }

    static List<Integer> number(int n) {
        return list(n / 256, n % 256);
    }

    static int sum(List<Integer> bytes) {
        int sum = 0;
        for (int b : bytes) {
            sum += b;
        }
        return sum & 255;
    }

    /** The CHECK by division: the bytes as one number, its first 16 bits turned, 16 zeros behind. */
    static int check(List<Integer> bytes) {
        int rest = 0;
        for (int i = 0; i < bytes.size() * 8 + 16; i++) {
            int bit = i < bytes.size() * 8 ? bytes.get(i / 8) >> (7 - i % 8) & 1 : 0;
            rest = rest << 1 | (i < 16 ? 1 - bit : bit);
            if (rest > 65535) {
                rest = (rest ^ 0x11021) & 65535;
            }
        }
        return rest;
    }

    /** A chain's record with a right sum, whatever else is in it. */
    static List<Integer> record(int method, String name, int length, int check, int... squeezed) {
        List<Integer> head = joined(list(67, method, name.length()), characters(name),
                list(squeezed.length, length), number(check));
        List<Integer> made = joined(head, list(sum(head)), list(squeezed));
        while (made.size() % 4 != 0) {
            made.add(0);
        }
        return made;
    }

    static List<Integer> entry(int method, String name, int place, int many, int length, int check) {
        return joined(list(method, name.length()), characters(name), number(place), list(many, length), number(check));
    }

    /** An index with a right tail, whatever is in its data and directory. */
    static List<Integer> index(List<Integer> data, List<Integer> directory, int files) {
        return joined(list(73), data, directory, list(88, files), number(1 + data.size()), number(check(directory)));
    }
}
