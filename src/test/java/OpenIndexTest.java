import java.util.List;

/** Promises 9 and 10 on indexes: open, place. */
public final class OpenIndexTest {
    private static final List<Integer> DATA = Bench.list(1, 2, 3, 4, 5);
    private static final List<Integer> FIRST = Bench.entry(0, "ab", 1, 3, 3, 0x1234);
    private static final List<Integer> SECOND = Bench.entry(2, "c", 4, 2, 60, 0xFEDC);
    private static final int DIRECTORY = 1 + DATA.size();

    public static void main(String[] args) {
        whole();
        zeros();
        tails();
        shortDirectories();
        entries();
        ranges();
        bytesLeft();
        Bench.end();
    }

    private static ArchiveBench with(List<Integer> image) {
        ArchiveBench x = new ArchiveBench();
        Bench.writeImage(x, image);
        return x;
    }

    private static List<Integer> whole(int files) {
        return Bench.index(DATA, Bench.joined(FIRST, SECOND), files);
    }

    private static void whole() {
        ArchiveBench x = with(whole(2));
        Bench.dueOpen("the whole", x, 2, ArchiveBench.REFUSED);
        int[][] due = {{0, 2, 1, 3, 3, 0x1234, 97, 98, -1}, {2, 1, 4, 2, 60, 0xFEDC, 99, -1, -1}};
        for (int file = 0; file < 2; file++) {
            for (int what = 0; what <= 8; what++) {
                Bench.due("file " + file + " " + what, x.file(file, what < 6 ? what : what + 10), due[file][what]);
            }
        }
    }

    private static void zeros() {
        List<Integer> entries = Bench.joined(Bench.entry(0, "a", 1, 0, 0, 0), Bench.entry(0, "b", 1, 0, 0, 0));
        Bench.dueOpen("CHECKs of 0", with(Bench.index(DATA, entries, 2)), 2, ArchiveBench.REFUSED);
    }

    private static void tails() {
        List<Integer> image = whole(2);
        int tail = image.size() - 6;
        for (int n = 1; n <= 6; n++) {
            Bench.dueOpen("less than 7 bytes", with(image.subList(0, n)), ArchiveBench.CUT, n);
        }
        Bench.dueOpen("7 bytes", with(image.subList(0, 7)), ArchiveBench.STRANGE, 1);
        due("88", image, tail, 87, tail);
        due("88", image, tail, 0, tail);
        due("files", image, tail + 1, 7, tail + 1);
        due("files", image, tail + 1, 255, tail + 1);
        due("the directory's place 0", image, tail + 3, 0, tail + 2);
        due("the directory's place is behind the 88", image, tail + 3, tail + 1, tail + 2);
        due("the directory's place is far behind", image, tail + 2, 255, tail + 2);
        due("the directory's place is another one", image, tail + 3, DIRECTORY + 1, tail + 4);
        due("CHECK's first byte", image, tail + 4, image.get(tail + 4) ^ 1, tail + 4);
        due("CHECK's second byte", image, tail + 5, image.get(tail + 5) ^ 1, tail + 4);
        due("a directory's byte", image, DIRECTORY, 1, tail + 4);
        due("a directory's last byte", image, tail - 1, 0, tail + 4);
        ArchiveBench x = with(image);
        x.put(3, 99);
        Bench.dueOpen("a byte of the data", x, 2, ArchiveBench.REFUSED);
        Bench.dueOpen("a directory of nothing at the 88", with(Bench.list(73, 9, 9, 88, 0, 0, 3, 255, 255)), 0,
                ArchiveBench.REFUSED);
    }

    private static void due(String what, List<Integer> image, int i, int b, int place) {
        ArchiveBench x = with(image);
        x.put(i, b);
        Bench.dueOpen(what, x, ArchiveBench.STRANGE, place);
    }

    private static void shortDirectories() {
        List<Integer> entries = Bench.joined(FIRST, SECOND);
        for (int n = 0; n < entries.size(); n++) {
            ArchiveBench x = with(Bench.index(DATA, entries.subList(0, n), 2));
            Bench.dueOpen("a directory of " + n, x, ArchiveBench.CUT, DIRECTORY + n);
        }
        Bench.dueOpen("more files than entries", with(whole(3)), ArchiveBench.CUT, DIRECTORY + entries.size());
        Bench.dueOpen("many more", with(whole(6)), ArchiveBench.CUT, DIRECTORY + entries.size());
    }

    private static void entries() {
        dueEntry("method", 0, 3, 0);
        dueEntry("no name", 1, 0, 1);
        dueEntry("name too long", 1, 9, 1);
        dueEntry("a character", 2, 96, 2);
        dueEntry("a character", 3, 123, 3);
        dueEntry("bytes", 7, 61, 7);
        dueEntry("place", 4, 1, 4);
        List<Integer> twoFaults = Bench.joined(FIRST);
        twoFaults.set(4, 1);
        twoFaults.set(7, 61);
        Bench.dueOpen("place before bytes", with(Bench.index(DATA, twoFaults, 1)), ArchiveBench.STRANGE, DIRECTORY + 4);
        Bench.dueOpen("place without how many", with(Bench.index(DATA, twoFaults.subList(0, 6), 1)), ArchiveBench.CUT,
                DIRECTORY + 6);
        Bench.dueOpen("place and how many, no more", with(Bench.index(DATA, twoFaults.subList(0, 7), 1)),
                ArchiveBench.STRANGE, DIRECTORY + 4);
    }

    private static void dueEntry(String what, int i, int b, int place) {
        List<Integer> entry = Bench.joined(FIRST);
        entry.set(i, b);
        Bench.dueOpen(what, with(Bench.index(DATA, entry, 1)), ArchiveBench.STRANGE, DIRECTORY + place);
        List<Integer> behind = Bench.joined(FIRST, entry);
        Bench.dueOpen(what, with(Bench.index(DATA, behind, 2)), ArchiveBench.STRANGE, DIRECTORY + FIRST.size() + place);
    }

    private static void ranges() {
        dueRange(0, 0, false);
        dueRange(0, 3, false);
        dueRange(1, 0, true);
        dueRange(1, 5, true);
        dueRange(1, 6, false);
        dueRange(5, 1, true);
        dueRange(5, 2, false);
        dueRange(6, 0, true);
        dueRange(6, 1, false);
        dueRange(7, 0, false);
        dueRange(256, 0, false);
        dueRange(65535, 255, false);
    }

    private static void dueRange(int place, int many, boolean right) {
        ArchiveBench x = with(Bench.index(DATA, Bench.entry(1, "a", place, many, 1, 1), 1));
        Bench.dueOpen("place " + place + " and " + many, x, right ? 1 : ArchiveBench.STRANGE,
                right ? ArchiveBench.REFUSED : DIRECTORY + 3);
    }

    private static void bytesLeft() {
        Bench.dueOpen("an entry left", with(whole(1)), ArchiveBench.STRANGE, DIRECTORY + FIRST.size());
        Bench.dueOpen("all left", with(whole(0)), ArchiveBench.STRANGE, DIRECTORY);
        List<Integer> one = Bench.joined(FIRST, Bench.list(0));
        Bench.dueOpen("a byte left", with(Bench.index(DATA, one, 1)), ArchiveBench.STRANGE, DIRECTORY + FIRST.size());
    }
}
