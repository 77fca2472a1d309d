import java.util.List;

/** Terms: bytes, numbers in two bytes, CHECK. */
public final class BytesTest {
    public static void main(String[] args) {
        bytes();
        numbers();
        check();
        Bench.end();
    }

    private static void bytes() {
        Bench.sentence(Bench.TERMS, "BYTES are 0 .. 255.");
        ArchiveBench x = new ArchiveBench();
        Bench.due("data 0", x.data(0, 1), 1);
        Bench.due("data 255", x.data(255, 1), 2);
        Bench.due("put 0", x.put(0, 0), 1);
        Bench.due("put 255", x.put(1, 255), 2);
        Bench.due("the image", Bench.imageOf(x), Bench.list(0, 255));
        for (int b : new int[] {-1, 256, -128, -256, 511, Integer.MIN_VALUE, Integer.MAX_VALUE}) {
            Bench.due("data " + b, x.data(b, 1), ArchiveBench.REFUSED);
            Bench.due("put within " + b, x.put(0, b), ArchiveBench.REFUSED);
            Bench.due("put behind " + b, x.put(2, b), ArchiveBench.REFUSED);
        }
        Bench.due("bytes written", x.count(4), 2);
        Bench.due("the image", Bench.imageOf(x), Bench.list(0, 255));
        Bench.writeName(x, "a");
        x.add(0);
        x.pack(0);
        x.open();
        Bench.due("take", x.take(0), 2);
        Bench.due("the bytes", Bench.takenOf(x), Bench.list(0, 255));
    }

    private static void numbers() {
        Bench.sentence(Bench.TERMS, "A number in two bytes has its higher one first.");
        ArchiveBench x = new ArchiveBench();
        Bench.writeFile(x, "a", 0, 1, 2, 3, 4);
        x.pack(0);
        Bench.due("a chain's CHECK, 35267", Bench.imageOf(x).subList(6, 8), Bench.list(137, 195));

        x = new ArchiveBench();
        for (int i = 0; i < 6; i++) {
            Bench.writeName(x, "a");
            x.data(7, 60);
            x.add(0);
        }
        // 361 bytes, then six entries of nine.
        Bench.due("pack", x.pack(1), 421);
        Bench.due("the fifth file's place, 241", Bench.imageOf(x).subList(361 + 4 * 9 + 3, 361 + 4 * 9 + 5),
                Bench.list(0, 241));
        x.open();
        Bench.due("the sixth file's place, 301", x.image(361 + 5 * 9 + 3), 1);
        Bench.due("the sixth file's place, 301", x.image(361 + 5 * 9 + 4), 45);
        Bench.due("the directory's place, 361", x.image(417), 1);
        Bench.due("the directory's place, 361", x.image(418), 105);

        x = Bench.with(Bench.list(67, 0, 1, 97, 0, 0, 1, 2, 168, 0, 0, 0, 69));
        Bench.dueOpen("a CHECK of 258", x, 1);
        Bench.due("the CHECK", x.file(0, 5), 258);
        // 300 bytes of data, so that both places need their higher byte.
        List<Integer> entry = Bench.entry(0, "a", 258, 2, 2, 515);
        x = Bench.with(Bench.index(Bench.times(9, 300), entry, 1));
        Bench.dueOpen("an index", x, 1);
        Bench.due("the place", x.file(0, 2), 258);
        Bench.due("the CHECK", x.file(0, 5), 515);
    }

    private static void check() {
        Bench.sentence(Bench.TERMS, "CHECK of a row: c = 65535; for each byte, from its highest bit to its lowest one: "
                + "t = that bit xor the bit 32768 of c; c = (c * 2) & 65535; if t is 1, c = c xor 4129. CHECK is c.");
        Bench.due("of nothing", checkOf(Bench.list()), 65535);
        Bench.due("of 0", checkOf(Bench.list(0)), 57840);
        Bench.due("of 255", checkOf(Bench.list(255)), 65280);
        Bench.due("of 128", checkOf(Bench.list(128)), 28792);
        Bench.due("of 1", checkOf(Bench.list(1)), 61905);
        Bench.due("of two zeros", checkOf(Bench.list(0, 0)), 7439);
        // The value that every list of such checks gives for these nine bytes.
        Bench.due("of the digits", checkOf(Bench.characters("123456789")), 0x29B1);
        Bench.due("of a row and its CHECK", checkOf(Bench.joined(Bench.characters("123456789"), Bench.list(0x29, 0xB1))), 0);
        for (List<Integer> row : List.of(Bench.times(255, 60), Bench.times(0, 60), Bench.counting(60))) {
            Bench.due("of sixty bytes", checkOf(row), Bench.check(row));
        }
        Bench.due("the tests' own", Bench.check(Bench.characters("123456789")), 0x29B1);
    }

    private static int checkOf(List<Integer> bytes) {
        ArchiveBench x = new ArchiveBench();
        Bench.writeFile(x, "a", 0, Bench.array(bytes));
        x.pack(0);
        Bench.due("open", x.open(), 1);
        return x.file(0, 5);
    }
}
