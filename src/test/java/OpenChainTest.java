import java.util.List;

/** Promises 9 and 10 on chains: open, place. */
public final class OpenChainTest {
    private static final List<Integer> RECORD = Bench.record(0, "ab", 5, 0x1234, 1, 2, 3, 4, 5);

    public static void main(String[] args) {
        firstBytes();
        cuts();
        bytesOfARecord();
        zeros();
        behindTheEnd();
        sevenRecords();
        places();
        Bench.end();
    }

    private static ArchiveBench with(List<?>... rows) {
        ArchiveBench x = new ArchiveBench();
        Bench.writeImage(x, Bench.joined(rows));
        return x;
    }

    private static List<Integer> changed(List<Integer> row, int i, int b) {
        List<Integer> made = Bench.joined(row);
        made.set(i, b);
        return made;
    }

    private static void firstBytes() {
        ArchiveBench x = new ArchiveBench();
        Bench.dueOpen("an empty image", x, ArchiveBench.STRANGE, 0);
        for (int b = 0; b <= 255; b++) {
            int answer = b == 67 || b == 73 ? ArchiveBench.CUT : b == 69 ? 0 : ArchiveBench.STRANGE;
            Bench.due("open " + b, with(Bench.list(b)).open(), answer);
        }
        x.put(0, 68);
        Bench.dueOpen("68", x, ArchiveBench.STRANGE, 0);
        x.put(0, 67);
        Bench.dueOpen("67", x, ArchiveBench.CUT, 1);
        x.put(0, 73);
        Bench.dueOpen("73", x, ArchiveBench.CUT, 1);
        x.put(0, 69);
        Bench.dueOpen("69", x, 0, ArchiveBench.REFUSED);
    }

    /** A chain that ends too early is CUT at its length, wherever that is. */
    private static void cuts() {
        ArchiveBench x = with(RECORD, RECORD, Bench.list(69));
        int length = x.count(1);
        Bench.dueOpen("the whole", x, 2, ArchiveBench.REFUSED);
        for (int n = length - 1; n >= 1; n--) {
            x.cut(n);
            Bench.dueOpen("the first " + n, x, ArchiveBench.CUT, n);
        }
        x.cut(0);
        Bench.dueOpen("nothing", x, ArchiveBench.STRANGE, 0);
    }

    private static void bytesOfARecord() {
        int at = RECORD.size();
        due("no record and no end", 0, 68, ArchiveBench.STRANGE, at);
        due("an index's byte", 0, 73, ArchiveBench.STRANGE, at);
        due("zero", 0, 0, ArchiveBench.STRANGE, at);
        due("method", 1, 3, ArchiveBench.STRANGE, at + 1);
        due("method", 1, 255, ArchiveBench.STRANGE, at + 1);
        due("no name", 2, 0, ArchiveBench.STRANGE, at + 2);
        due("name too long", 2, 9, ArchiveBench.STRANGE, at + 2);
        for (int b : new int[] {0, 45, 48, 96, 123, 255}) {
            due("first character " + b, 3, b, ArchiveBench.STRANGE, at + 3);
            due("last character " + b, 4, b, ArchiveBench.STRANGE, at + 4);
        }
        due("bytes", 6, 61, ArchiveBench.STRANGE, at + 6);
        due("bytes", 6, 255, ArchiveBench.STRANGE, at + 6);
        // Bytes that may be anything are told by the sum alone.
        for (int i : new int[] {1, 3, 5, 6, 7, 8}) {
            due("byte " + i, i, RECORD.get(i) + 1, ArchiveBench.STRANGE, at + 9);
        }
        due("sum", 9, RECORD.get(9) ^ 128, ArchiveBench.STRANGE, at + 9);
        due("a squeezed byte", 12, 255, 2, ArchiveBench.REFUSED);

        // Method 2 and 60 bytes are still right, and the name's bytes are tested before the bytes behind them.
        ArchiveBench x = with(Bench.record(2, "./z.az", 60, 65535), Bench.list(69));
        Bench.dueOpen("edges", x, 1, ArchiveBench.REFUSED);
        x = with(Bench.record(2, "abcdefgh", 0, 0), Bench.list(69));
        Bench.dueOpen("a name of 8", x, 1, ArchiveBench.REFUSED);
        x = with(Bench.list(67, 0, 1, 97, 0, 0, 0, 91, 0, 0, 0, 0, 69));
        Bench.dueOpen("a sum of 0", x, 1, ArchiveBench.REFUSED);
        x = with(Bench.record(0, "a", 0, 0), Bench.record(0, "b", 0, 0), Bench.list(69));
        Bench.dueOpen("CHECKs of 0", x, 2, ArchiveBench.REFUSED);
        x = with(Bench.list(67, 3, 0));
        Bench.dueOpen("two faults", x, ArchiveBench.STRANGE, 1);
        x = with(Bench.list(67, 0, 2, 97));
        Bench.dueOpen("a name that is cut", x, ArchiveBench.CUT, 4);
        x = with(Bench.list(67, 0, 2, 64));
        Bench.dueOpen("a strange name that is cut", x, ArchiveBench.STRANGE, 3);
        x = with(Bench.list(67, 0, 1, 97, 0, 61));
        Bench.dueOpen("too many bytes, then cut", x, ArchiveBench.STRANGE, 5);
    }

    private static void due(String what, int i, int b, int answer, int place) {
        Bench.dueOpen(what, with(RECORD, changed(RECORD, i, b), Bench.list(69)), answer, place);
    }

    private static void zeros() {
        // Nine bytes before the squeezed ones: none, three, two, one zeros behind 3, 4, 5, 6 of these.
        for (int many = 3; many <= 6; many++) {
            int[] squeezed = new int[many];
            List<Integer> row = Bench.record(0, "a", many, 7, squeezed);
            Bench.due("length", row.size(), many == 3 ? 12 : 16);
            Bench.dueOpen("zeros", with(row, Bench.list(69)), 1, ArchiveBench.REFUSED);
            for (int i = 9 + many; i < row.size(); i++) {
                List<Integer> spoiled = changed(row, i, 1);
                Bench.dueOpen("no zero at " + i, with(spoiled, Bench.list(69)), ArchiveBench.STRANGE, i);
                Bench.dueOpen("no zero and no end", with(spoiled), ArchiveBench.STRANGE, i);
            }
        }
        List<Integer> row = changed(Bench.record(0, "a", 0, 7, 0, 0, 0, 0), 13, 1);
        Bench.dueOpen("not all zeros there", with(row.subList(0, 15)), ArchiveBench.CUT, 15);
        row.set(15, 1);
        Bench.dueOpen("the first that is not 0", with(row), ArchiveBench.STRANGE, 13);
        Bench.dueOpen("255 squeezed bytes", with(Bench.record(1, "a", 0, 7, new int[255]), Bench.list(69)), 1,
                ArchiveBench.REFUSED);
    }

    private static void behindTheEnd() {
        Bench.dueOpen("bytes behind the end", with(Bench.list(69, 1, 2, 67)), 0, ArchiveBench.REFUSED);
        Bench.dueOpen("bytes behind the end", with(RECORD, Bench.list(69, 67, 9)), 1, ArchiveBench.REFUSED);
    }

    private static void sevenRecords() {
        List<Integer> small = Bench.record(0, "a", 0, 65535);
        List<Integer> six = Bench.joined(small, small, small, small, small, small);
        int at = six.size();
        Bench.dueOpen("six", with(six, Bench.list(69)), 6, ArchiveBench.REFUSED);
        Bench.dueOpen("six and no end", with(six), ArchiveBench.CUT, at);
        Bench.dueOpen("six and a strange byte", with(six, Bench.list(70)), ArchiveBench.STRANGE, at);
        Bench.dueOpen("seven", with(six, small, Bench.list(69)), ArchiveBench.FULL, at);
        Bench.dueOpen("eight", with(six, small, small, Bench.list(69)), ArchiveBench.FULL, at);
        // The document tells FULL behind the head's faults and before the squeezed bytes.
        Bench.dueOpen("a seventh that is cut", with(six, Bench.list(67)), ArchiveBench.CUT, at + 1);
        Bench.dueOpen("a seventh by a strange method", with(six, changed(small, 1, 3)), ArchiveBench.STRANGE, at + 1);
        Bench.dueOpen("a seventh with a wrong sum", with(six, changed(small, 8, 3)), ArchiveBench.STRANGE, at + 8);
        Bench.dueOpen("a seventh without its zeros", with(six, small.subList(0, 9)), ArchiveBench.FULL, at);
        Bench.dueOpen("a seventh with a strange zero", with(six, changed(small, 11, 1)), ArchiveBench.FULL, at);
    }

    private static void places() {
        ArchiveBench x = new ArchiveBench();
        Bench.due("place before the first open", x.place(), ArchiveBench.REFUSED);
        Bench.writeImage(x, RECORD);
        Bench.due("open", x.open(), ArchiveBench.CUT);
        Bench.due("place", x.place(), 16);
        x.put(16, 69);
        Bench.due("place stays till the next open", x.place(), 16);
        Bench.due("open", x.open(), 1);
        Bench.due("place", x.place(), ArchiveBench.REFUSED);
        Bench.due("open again", x.open(), 1);
        x.put(1, 9);
        Bench.due("open", x.open(), ArchiveBench.STRANGE);
        Bench.due("place", x.place(), 1);
        x.pack(0);
        Bench.due("place stays behind pack", x.place(), 1);
        x.cut(0);
        Bench.due("place stays behind cut", x.place(), 1);
        Bench.due("open", x.open(), ArchiveBench.STRANGE);
        Bench.due("place", x.place(), 0);
    }
}
