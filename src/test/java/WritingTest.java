import java.util.List;

/** Promises 2 to 4: name, data, add. */
public final class WritingTest {
    public static void main(String[] args) {
        characters();
        ninthCharacter();
        lengthOfTheName();
        manyBytes();
        moreThanSixty();
        howManyBytes();
        withoutAName();
        methods();
        seventhFile();
        numbersOfFiles();
        Bench.end();
    }

    /** What a file holds that is added, packed and opened. */
    private static void dueFile(ArchiveBench x, String name, List<Integer> bytes) {
        Bench.due("add", x.add(0), 0);
        x.pack(0);
        Bench.due("open", x.open(), 1);
        Bench.due("length of the name", x.file(0, 1), name.length());
        for (int i = 0; i < name.length(); i++) {
            Bench.due("character " + i, x.file(0, 16 + i), name.charAt(i));
        }
        int check = Bench.check(bytes);
        Bench.due("the record", Bench.imageOf(x), Bench.joined(Bench.record(0, name, bytes.size(), check,
                Bench.array(bytes)), Bench.list(69)));
    }

    private static void characters() {
        Bench.sentence(2, "Appends a character (97 .. 122, 46, 47) to the name that is being written.");
        for (int character = -2; character <= 300; character++) {
            boolean good = character >= 97 && character <= 122 || character == 46 || character == 47;
            ArchiveBench x = new ArchiveBench();
            Bench.due("name " + character, x.name(character), good ? 1 : ArchiveBench.REFUSED);
            Bench.due("characters written", x.count(3), good ? 1 : 0);
        }
        ArchiveBench x = new ArchiveBench();
        for (int character : new int[] {97 + 65536, 97 - 256, Integer.MIN_VALUE, Integer.MIN_VALUE + 97, Integer.MAX_VALUE}) {
            Bench.due("name " + character, x.name(character), ArchiveBench.REFUSED);
        }
        Bench.writeName(x, "z/.a");
        Bench.due("a character of no name", x.name(64), ArchiveBench.REFUSED);
        dueFile(x, "z/.a", Bench.list());
    }

    private static void ninthCharacter() {
        Bench.sentence(2, "It has 8: FULL.");
        ArchiveBench x = new ArchiveBench();
        Bench.writeName(x, "abcdefgh");
        Bench.due("a ninth", x.name(97), ArchiveBench.FULL);
        Bench.due("a ninth again", x.name(47), ArchiveBench.FULL);
        Bench.due("a ninth that is of no name", x.name(64), ArchiveBench.REFUSED);
        Bench.due("characters written", x.count(3), 8);
        dueFile(x, "abcdefgh", Bench.list());
    }

    private static void lengthOfTheName() {
        Bench.sentence(2, "Else its length.");
        ArchiveBench x = new ArchiveBench();
        for (int i = 1; i <= 8; i++) {
            Bench.due("character " + i, x.name(96 + i), i);
            Bench.due("characters written", x.count(3), i);
        }
        x.add(0);
        Bench.due("of the next name", x.name(97), 1);
    }

    private static void manyBytes() {
        Bench.sentence(3, "Appends n (1 .. 60) times a byte 0 .. 255 to the bytes that are being written.");
        ArchiveBench x = new ArchiveBench();
        int[][] bad = {{-1, 1}, {256, 1}, {0, 0}, {0, 61}, {0, -1}, {-1, 0}, {256, 61}, {Integer.MIN_VALUE, 1},
            {Integer.MAX_VALUE, 1}, {0, Integer.MAX_VALUE}, {0, Integer.MIN_VALUE}, {0, 257}};
        for (int[] b : bad) {
            Bench.due("data " + b[0] + " " + b[1], x.data(b[0], b[1]), ArchiveBench.REFUSED);
        }
        Bench.due("bytes written", x.count(4), 0);
        Bench.due("one", x.data(0, 1), 1);
        Bench.due("two", x.data(255, 2), 3);
        Bench.due("three", x.data(8, 3), 6);
        Bench.writeName(x, "a");
        dueFile(x, "a", Bench.list(0, 255, 255, 8, 8, 8));
        for (int n = 1; n <= 60; n++) {
            Bench.due("data of " + n, new ArchiveBench().data(3, n), n);
        }
        x.data(3, 60);
        Bench.writeName(x, "b");
        dueFile(x, "b", Bench.times(3, 60));
    }

    private static void moreThanSixty() {
        Bench.sentence(3, "They would be more than 60: FULL.");
        ArchiveBench x = new ArchiveBench();
        Bench.due("one", x.data(1, 1), 1);
        Bench.due("sixty more", x.data(9, 60), ArchiveBench.FULL);
        Bench.due("bytes written", x.count(4), 1);
        Bench.due("58 more", x.data(2, 58), 59);
        Bench.due("two more", x.data(9, 2), ArchiveBench.FULL);
        Bench.due("bytes written", x.count(4), 59);
        Bench.due("the sixtieth", x.data(3, 1), 60);
        Bench.due("one more", x.data(9, 1), ArchiveBench.FULL);
        Bench.due("sixty more", x.data(9, 60), ArchiveBench.FULL);
        Bench.due("one more that is no byte", x.data(256, 1), ArchiveBench.REFUSED);
        Bench.due("61 more", x.data(9, 61), ArchiveBench.REFUSED);
        Bench.due("none more", x.data(9, 0), ArchiveBench.REFUSED);
        Bench.due("bytes written", x.count(4), 60);
        Bench.writeName(x, "a");
        dueFile(x, "a", Bench.joined(Bench.list(1), Bench.times(2, 58), Bench.list(3)));
        Bench.due("sixty at once are not more", x.data(1, 60), 60);
    }

    private static void howManyBytes() {
        Bench.sentence(3, "Else how many there are.");
        ArchiveBench x = new ArchiveBench();
        for (int i = 1; i <= 20; i++) {
            Bench.due("data", x.data(i, 3), 3 * i);
            Bench.due("bytes written", x.count(4), 3 * i);
        }
        Bench.writeName(x, "a");
        x.add(0);
        Bench.due("of the next file", x.data(0, 2), 2);
    }

    private static void withoutAName() {
        Bench.sentence(4, "The written name (none: REFUSED) and bytes are one more file to be packed,");
        ArchiveBench x = new ArchiveBench();
        Bench.due("nothing at all", x.add(0), ArchiveBench.REFUSED);
        x.data(5, 2);
        for (int method = 0; method <= 2; method++) {
            Bench.due("bytes alone", x.add(method), ArchiveBench.REFUSED);
        }
        Bench.due("files", x.count(0), 0);
        Bench.due("bytes written", x.count(4), 2);
        Bench.writeName(x, "ab");
        dueFile(x, "ab", Bench.list(5, 5));
        Bench.due("the name is no more there", x.add(0), ArchiveBench.REFUSED);
        Bench.writeName(x, "c");
        dueFile(x, "c", Bench.list());
    }

    private static void methods() {
        Bench.sentence(4, "with a method 0 .. 2.");
        ArchiveBench x = new ArchiveBench();
        Bench.writeName(x, "a");
        x.data(7, 5);
        for (int method : new int[] {-1, 3, 4, 256, 258, Integer.MIN_VALUE, Integer.MAX_VALUE}) {
            Bench.due("add " + method, x.add(method), ArchiveBench.REFUSED);
        }
        Bench.due("files", x.count(0), 0);
        Bench.due("characters written", x.count(3), 1);
        Bench.due("bytes written", x.count(4), 5);
        for (int method = 0; method <= 2; method++) {
            Bench.due("add " + method, x.add(method), method);
            Bench.writeName(x, "a");
            x.data(7, 5);
        }
        x.pack(0);
        x.open();
        for (int method = 0; method <= 2; method++) {
            Bench.due("method", x.file(method, 0), method);
            Bench.due("how many", x.file(method, 3), new int[] {5, 2, 4}[method]);
        }
    }

    private static void seventhFile() {
        Bench.sentence(4, "There are 6: FULL.");
        ArchiveBench x = new ArchiveBench();
        for (int i = 0; i < 6; i++) {
            Bench.writeFile(x, "a", 0, i);
        }
        Bench.due("a seventh without a name", x.add(0), ArchiveBench.REFUSED);
        Bench.writeName(x, "bc");
        x.data(1, 3);
        List<Integer> before = Bench.stateOf(x);
        for (int method = 0; method <= 2; method++) {
            Bench.due("a seventh", x.add(method), ArchiveBench.FULL);
        }
        Bench.due("a seventh by no method", x.add(3), ArchiveBench.REFUSED);
        Bench.due("a seventh by no method", x.add(-1), ArchiveBench.REFUSED);
        Bench.due("the state", Bench.stateOf(x), before);
        // Twelve bytes each, and the end.
        Bench.due("pack", x.pack(0), 73);
        Bench.due("open", x.open(), 6);
        Bench.due("take the first", x.take(0), 1);
        Bench.due("its byte", x.taken(0), 0);
        dueFile(x, "bc", Bench.list(1, 1, 1));
    }

    private static void numbersOfFiles() {
        Bench.sentence(4, "Else its number, from 0; nothing is written then.");
        ArchiveBench x = new ArchiveBench();
        for (int i = 0; i < 6; i++) {
            Bench.writeName(x, "ab");
            x.data(1, 9);
            Bench.due("add", x.add(i % 3), i);
            Bench.due("files", x.count(0), i + 1);
            Bench.due("characters written", x.count(3), 0);
            Bench.due("bytes written", x.count(4), 0);
        }
        x.pack(0);
        Bench.writeName(x, "a");
        Bench.due("add after pack", x.add(0), 0);
    }
}
