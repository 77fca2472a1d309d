import java.util.List;

/** Terms: which calls are refused, and that they change nothing. */
public final class RefusedTest {
    private static final int LEAST = Integer.MIN_VALUE;
    private static final int MOST = Integer.MAX_VALUE;

    public static void main(String[] args) {
        changesNothing();
        outOfRange();
        Bench.end();
    }

    /** A name, bytes and a file are written, an image of two files is there, and one of them was taken out. */
    private static ArchiveBench busy() {
        ArchiveBench x = new ArchiveBench();
        Bench.writeFile(x, "a", 0, 1, 2, 3);
        Bench.writeFile(x, "b", 1, 5, 5, 5);
        Bench.due("pack", x.pack(0), 25);
        Bench.due("open", x.open(), 2);
        Bench.due("take", x.take(0), 3);
        Bench.writeFile(x, "q", 2, 6);
        Bench.writeName(x, "rs");
        Bench.due("data", x.data(7, 2), 2);
        return x;
    }

    private static void dueRefused(ArchiveBench x, int image) {
        int[] due = {
            x.name(96), x.name(123), x.name(0), x.data(-1, 1), x.data(256, 1), x.data(1, 0), x.data(1, 61),
            x.add(-1), x.add(3), x.pack(-1), x.pack(2), x.put(-1, 0), x.put(image + 1, 0), x.put(0, -1), x.put(0, 256),
            x.put(image, 256), x.cut(-1), x.cut(image + 1), x.image(-1), x.image(image), x.take(-1), x.take(2),
            x.taken(-1), x.taken(3), x.file(-1, 0), x.file(2, 0), x.file(0, 6), x.file(0, 17), x.count(-1), x.count(6)};
        for (int i = 0; i < due.length; i++) {
            Bench.due("refused call " + i, due[i], ArchiveBench.REFUSED);
        }
    }

    private static void changesNothing() {
        Bench.sentence(Bench.TERMS, "A refused call changes nothing.");
        ArchiveBench x = busy();
        List<Integer> before = Bench.stateOf(x);
        dueRefused(x, 25);
        Bench.due("the state with open files", Bench.stateOf(x), before);
        x.put(0, 68);
        x.open();
        before = Bench.stateOf(x);
        dueRefused(x, 25);
        Bench.due("the state with a place", Bench.stateOf(x), before);
        Bench.due("place", x.place(), 0);
        // What is written and to be packed can only be seen in what is packed.
        Bench.due("add", x.add(0), 1);
        Bench.due("add of nothing", x.add(0), ArchiveBench.REFUSED);
        x.pack(0);
        Bench.due("the files", Bench.imageOf(x), Bench.joined(Bench.record(2, "q", 1, Bench.check(Bench.list(6)), 0, 6),
                Bench.record(0, "rs", 2, Bench.check(Bench.list(7, 7)), 7, 7), Bench.list(69)));
        // Bytes without a name stay.
        x = new ArchiveBench();
        x.data(9, 2);
        Bench.due("add without a name", x.add(0), ArchiveBench.REFUSED);
        Bench.due("bytes written", x.count(4), 2);
        Bench.due("one more", x.data(8, 1), 3);
    }

    private static void outOfRange() {
        Bench.sentence(Bench.TERMS, "Numbers out of range: REFUSED.");
        ArchiveBench x = busy();
        List<Integer> before = Bench.stateOf(x);
        int[] due = {
            x.name(LEAST), x.name(MOST), x.data(LEAST, 1), x.data(MOST, 1), x.data(1, LEAST), x.data(1, MOST),
            x.data(LEAST, LEAST), x.data(MOST, MOST), x.add(LEAST), x.add(MOST), x.pack(LEAST), x.pack(MOST),
            x.put(LEAST, 1), x.put(MOST, 1), x.put(0, LEAST), x.put(0, MOST), x.put(25, LEAST), x.put(25, MOST),
            x.cut(LEAST), x.cut(MOST), x.image(LEAST), x.image(MOST), x.take(LEAST), x.take(MOST), x.taken(LEAST),
            x.taken(MOST), x.file(LEAST, 0), x.file(MOST, 0), x.file(0, LEAST), x.file(0, MOST), x.file(MOST, MOST),
            x.count(LEAST), x.count(MOST)};
        for (int i = 0; i < due.length; i++) {
            Bench.due("call " + i, due[i], ArchiveBench.REFUSED);
        }
        Bench.due("the state", Bench.stateOf(x), before);
        // Also where the call would be FULL.
        x = new ArchiveBench();
        Bench.writeName(x, "abcdefgh");
        x.data(1, 60);
        Bench.due("name", x.name(64), ArchiveBench.REFUSED);
        Bench.due("data of 61", x.data(1, 61), ArchiveBench.REFUSED);
        Bench.due("data of 256", x.data(256, 1), ArchiveBench.REFUSED);
        x.add(0);
        for (int i = 1; i < 6; i++) {
            Bench.writeFile(x, "a", 0, i);
        }
        Bench.writeName(x, "b");
        Bench.due("add of a seventh", x.add(3), ArchiveBench.REFUSED);
        Bench.due("pack", x.pack(2), ArchiveBench.REFUSED);
        Bench.due("files", x.count(0), 6);
    }
}
