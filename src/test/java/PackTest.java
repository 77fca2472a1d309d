import java.util.List;

/** Promise 5: pack. */
public final class PackTest {
    public static void main(String[] args) {
        forms();
        nothing();
        full();
        order();
        Bench.end();
    }

    private static void forms() {
        ArchiveBench x = new ArchiveBench();
        Bench.writeFile(x, "b", 0, 1, 2, 3, 4);
        for (int form : new int[] {-1, 2, Integer.MIN_VALUE, Integer.MAX_VALUE}) {
            Bench.due("pack " + form, x.pack(form), ArchiveBench.REFUSED);
        }
        Bench.due("files", x.count(0), 1);
        Bench.writeFile(x, "a/b.cdef", 1, 5, 5, 5);
        Bench.writeFile(x, "zz", 2);
        List<Integer> chain = Bench.joined(
                Bench.record(0, "b", 4, Bench.check(Bench.list(1, 2, 3, 4)), 1, 2, 3, 4),
                Bench.record(1, "a/b.cdef", 3, Bench.check(Bench.list(5, 5, 5)), 249, 5),
                Bench.record(2, "zz", 0, 65535), Bench.list(69));
        Bench.due("pack", x.pack(0), chain.size());
        Bench.due("the chain", Bench.imageOf(x), chain);
        Bench.due("files", x.count(0), 0);

        Bench.writeFile(x, "e", 2);
        Bench.writeFile(x, "b", 0, 1, 2, 3, 4);
        Bench.writeFile(x, "a/b.cdef", 1, 5, 5, 5);
        List<Integer> index = Bench.index(Bench.list(1, 2, 3, 4, 249, 5), Bench.joined(
                Bench.entry(2, "e", 1, 0, 0, 65535),
                Bench.entry(0, "b", 1, 4, 4, Bench.check(Bench.list(1, 2, 3, 4))),
                Bench.entry(1, "a/b.cdef", 5, 2, 3, Bench.check(Bench.list(5, 5, 5)))), 3);
        Bench.due("pack", x.pack(1), index.size());
        Bench.due("the index", Bench.imageOf(x), index);
        Bench.due("files", x.count(0), 0);

        // What was packed before leaves nothing behind.
        Bench.writeFile(x, "q", 0);
        Bench.due("pack", x.pack(1), 16);
        Bench.due("pack", x.pack(1), 7);
        Bench.due("pack", x.pack(0), 1);
    }

    private static void nothing() {
        ArchiveBench x = new ArchiveBench();
        Bench.due("pack", x.pack(1), 7);
        Bench.due("an empty index", Bench.imageOf(x), Bench.list(73, 88, 0, 0, 1, 255, 255));
        Bench.dueOpen("an empty index", x, 0, ArchiveBench.REFUSED);
        Bench.due("pack", x.pack(0), 1);
        Bench.due("an empty chain", Bench.imageOf(x), Bench.list(69));
        Bench.dueOpen("an empty chain", x, 0, ArchiveBench.REFUSED);
    }

    /** Each byte 254, 255 makes two by RUNS, so that files grow. */
    private static void writeGrowing(ArchiveBench x, String name, int bytes) {
        Bench.writeName(x, name);
        for (int i = 0; i < bytes; i++) {
            x.data(254 + i % 2, 1);
        }
        x.add(1);
    }

    private static void full() {
        for (int form = 0; form <= 1; form++) {
            ArchiveBench x = new ArchiveBench();
            Bench.writeFile(x, "a", 0, 1);
            x.pack(0);
            x.open();
            x.take(0);
            for (int i = 0; i < 5; i++) {
                writeGrowing(x, "abcdefgh", 60);
            }
            x.name(97);
            x.data(1, 1);
            List<Integer> before = Bench.stateOf(x);
            Bench.due("pack of five", x.pack(form), ArchiveBench.FULL);
            Bench.due("the state", Bench.stateOf(x), before);
            Bench.due("files still open", x.take(0), 1);
        }
        ArchiveBench chain = new ArchiveBench();
        for (int i = 0; i < 4; i++) {
            writeGrowing(chain, "abcdefgh", 60);
        }
        Bench.due("four of 136", chain.pack(0), 545);
        // 1 + 4 * 120 + 4 * 16 + 6 = 551 and an entry of 9 are 560: forty bytes more fit.
        for (int bytes = 40; bytes <= 41; bytes++) {
            ArchiveBench x = new ArchiveBench();
            for (int i = 0; i < 4; i++) {
                writeGrowing(x, "abcdefgh", 60);
            }
            Bench.writeName(x, "a");
            x.data(1, bytes);
            x.add(0);
            Bench.due("an index of 600 or 601", x.pack(1), bytes == 40 ? 600 : ArchiveBench.FULL);
            Bench.due("files", x.count(0), bytes == 40 ? 0 : 5);
            if (bytes == 40) {
                Bench.dueOpen("an index of 600", x, 5, ArchiveBench.REFUSED);
                Bench.due("take", x.take(4), 40);
                Bench.due("take", x.take(0), 60);
            }
        }
        // A chain's length is one more than what can be divided by 4: 597, then 601.
        for (int bytes = 43; bytes <= 44; bytes++) {
            ArchiveBench x = new ArchiveBench();
            for (int i = 0; i < 4; i++) {
                writeGrowing(x, "abcdefgh", 60);
            }
            Bench.writeName(x, "a");
            x.data(1, bytes);
            x.add(0);
            Bench.due("a chain of 597 or 601", x.pack(0), bytes == 43 ? 597 : ArchiveBench.FULL);
            if (bytes == 44) {
                Bench.due("the other form of what is still there", x.pack(1), ArchiveBench.FULL);
                Bench.due("files", x.count(0), 5);
            }
        }
    }

    private static void order() {
        ArchiveBench x = new ArchiveBench();
        Bench.writeFile(x, "a", 0, 1);
        Bench.writeName(x, "bc");
        x.data(4, 3);
        x.pack(0);
        Bench.due("open", x.open(), 1);
        Bench.due("characters written stay", x.count(3), 2);
        Bench.due("bytes written stay", x.count(4), 3);
        Bench.due("take", x.take(0), 1);
        Bench.due("pack", x.pack(0), 1);
        Bench.due("no file is open", x.count(2), 0);
        Bench.due("no file is open", x.take(0), ArchiveBench.REFUSED);
        Bench.due("what was taken out stays", x.count(5), 1);
    }
}
