import java.util.List;

/** Promises 11 and 12: take, taken. */
public final class TakeTest {
    private static final int CHECK = Bench.check(Bench.list(7));
    private static final List<Integer> SOUND = Bench.record(0, "a", 1, CHECK, 7);
    private static final List<Integer> WRONG = Bench.record(0, "a", 1, CHECK ^ 1, 7);
    private static final List<Integer> SPOILED = Bench.record(0, "a", 2, CHECK ^ 1, 7);
    private static final List<Integer> UNSAFE = Bench.record(0, "..", 2, CHECK ^ 1, 7);
    private static final List<Integer> OTHER = Bench.record(0, "b", 1, CHECK, 7);

    public static void main(String[] args) {
        order();
        unsafe();
        twice();
        spoiled();
        wrong();
        howMany();
        noSuchFile();
        takenBytes();
        noByte();
        Bench.end();
    }

    private static ArchiveBench opened(int files, List<?>... records) {
        ArchiveBench x = Bench.with(Bench.joined(records), Bench.list(69));
        Bench.due("open", x.open(), files);
        return x;
    }

    private static void order() {
        Bench.sentence(11, "Takes out an open file (from 0), in this order:");
        ArchiveBench x = opened(6, UNSAFE, SPOILED, UNSAFE, SPOILED, WRONG, OTHER);
        Bench.due("UNSAFE before SPOILED", x.take(0), ArchiveBench.UNSAFE);
        Bench.due("SPOILED before WRONG", x.take(1), ArchiveBench.SPOILED);
        Bench.due("UNSAFE before TWICE", x.take(2), ArchiveBench.UNSAFE);
        Bench.due("TWICE before SPOILED", x.take(3), ArchiveBench.TWICE);
        Bench.due("TWICE before WRONG", x.take(4), ArchiveBench.TWICE);
        Bench.due("the last", x.take(5), 1);
        Bench.due("a first file", opened(1, SOUND).take(0), 1);
    }

    private static void unsafe() {
        Bench.sentence(11, "its name is not SAFE: UNSAFE.");
        for (String name : new String[] {"/", "/a", "a/", "a//b", "..", "../a", "a/..", "a/../b"}) {
            ArchiveBench x = opened(2, SOUND, Bench.record(0, name, 1, CHECK, 7));
            Bench.due("take " + name, x.take(1), ArchiveBench.UNSAFE);
            Bench.due("take the other", x.take(0), 1);
        }
    }

    private static void twice() {
        Bench.sentence(11, "An open file before it has the same name: TWICE.");
        ArchiveBench x = opened(2, SOUND, SOUND);
        Bench.due("the first of two", x.take(0), 1);
        Bench.due("the second of two", x.take(1), ArchiveBench.TWICE);
        Bench.due("the first again", x.take(0), 1);
        x = opened(6, OTHER, SOUND, Bench.record(0, "ab", 1, CHECK, 7), Bench.record(0, "aa", 1, CHECK, 7), OTHER, SOUND);
        int[] due = {1, 1, 1, 1, ArchiveBench.TWICE, ArchiveBench.TWICE};
        for (int file = 0; file < 6; file++) {
            Bench.due("take " + file, x.take(file), due[file]);
        }
        // The file before it may be one that can't be taken out itself.
        x = opened(3, SPOILED, WRONG, SOUND);
        Bench.due("behind SPOILED and WRONG", x.take(2), ArchiveBench.TWICE);
        x = opened(2, Bench.record(0, "abcdefgh", 1, CHECK, 7), Bench.record(1, "abcdefgh", 1, CHECK, 7));
        Bench.due("eight characters", x.take(1), ArchiveBench.TWICE);
        x = opened(2, Bench.record(0, "abcdefgh", 1, CHECK, 7), Bench.record(1, "abcdefgi", 1, CHECK, 7));
        Bench.due("the last of eight is another one", x.take(1), 1);
        x = opened(2, Bench.record(0, "abcdefgh", 1, CHECK, 7), Bench.record(1, "abcdefg", 1, CHECK, 7));
        Bench.due("the last of eight is not there", x.take(1), 1);
        x = opened(2, Bench.record(0, "a", 1, CHECK, 7), Bench.record(1, "./a", 1, CHECK, 7));
        Bench.due("names are not read as paths", x.take(1), 1);
        // What an earlier image had does not count.
        x = opened(1, SOUND);
        x.take(0);
        Bench.writeFile(x, "a", 0, 9);
        x.pack(1);
        x.open();
        Bench.due("in another image", x.take(0), 1);
    }

    private static void spoiled() {
        Bench.sentence(11, "SPOILED.");
        Bench.due("kept", opened(1, SPOILED).take(0), ArchiveBench.SPOILED);
        Bench.due("runs", opened(1, Bench.record(1, "a", 1, CHECK, 246)).take(0), ArchiveBench.SPOILED);
        Bench.due("copies", opened(1, Bench.record(2, "a", 3, CHECK, 32, 0)).take(0), ArchiveBench.SPOILED);
        ArchiveBench x = opened(2, SPOILED, OTHER);
        Bench.due("the other file", x.take(1), 1);
        // A CHECK that is right for what was made till then does not help.
        Bench.due("one byte of two", opened(1, Bench.record(0, "a", 2, CHECK, 7)).take(0), ArchiveBench.SPOILED);
        Bench.due("two bytes of one", opened(1, Bench.record(0, "a", 1, CHECK, 7, 7)).take(0), ArchiveBench.SPOILED);
        Bench.due("a row that goes on wrongly", opened(1, Bench.record(1, "a", 1, CHECK, 7, 246)).take(0),
                ArchiveBench.SPOILED);
        Bench.due("nothing of nothing", opened(1, Bench.record(2, "a", 0, 65535, 0)).take(0), ArchiveBench.SPOILED);
    }

    private static void wrong() {
        Bench.sentence(11, "CHECK of the bytes is not that of the image: WRONG.");
        for (int bit = 0; bit < 16; bit++) {
            Bench.due("bit " + bit, opened(1, Bench.record(0, "a", 1, CHECK ^ 1 << bit, 7)).take(0), ArchiveBench.WRONG);
        }
        Bench.due("another byte", opened(1, Bench.record(0, "a", 1, CHECK, 6)).take(0), ArchiveBench.WRONG);
        Bench.due("the right byte", opened(1, SOUND).take(0), 1);
        for (int method = 0; method <= 2; method++) {
            Bench.due("nothing, 0", opened(1, Bench.record(method, "a", 0, 0)).take(0), ArchiveBench.WRONG);
            Bench.due("nothing, 65534", opened(1, Bench.record(method, "a", 0, 65534)).take(0), ArchiveBench.WRONG);
            Bench.due("nothing, 65535", opened(1, Bench.record(method, "a", 0, 65535)).take(0), 0);
        }
        // The CHECK is that of the bytes, not of the squeezed ones.
        Bench.due("of squeezed bytes", opened(1, Bench.record(1, "a", 3, Bench.check(Bench.list(249, 7)), 249, 7)).take(0),
                ArchiveBench.WRONG);
        // These bytes' CHECK is 0.
        List<Integer> zero = Bench.joined(Bench.characters("123456789"), Bench.list(0x29, 0xB1));
        Bench.due("a CHECK of 0", opened(1, Bench.record(0, "a", 11, 0, Bench.array(zero))).take(0), 11);
    }

    private static void howMany() {
        Bench.sentence(11, "Else how many bytes it has; they are the taken ones.");
        ArchiveBench x = new ArchiveBench();
        Bench.writeName(x, "a");
        x.data(4, 60);
        x.add(2);
        Bench.writeFile(x, "b", 1, 255);
        Bench.writeFile(x, "c", 0);
        x.pack(1);
        x.open();
        Bench.due("take of sixty", x.take(0), 60);
        Bench.due("how many are taken", x.count(5), 60);
        Bench.due("the taken", Bench.takenOf(x), Bench.times(4, 60));
        Bench.due("take of one", x.take(1), 1);
        Bench.due("how many are taken", x.count(5), 1);
        Bench.due("the taken", Bench.takenOf(x), Bench.list(255));
        Bench.due("no more of the sixty", x.taken(1), ArchiveBench.REFUSED);
        Bench.due("take of none", x.take(2), 0);
        Bench.due("how many are taken", x.count(5), 0);
        Bench.due("no more of the one", x.taken(0), ArchiveBench.REFUSED);
        Bench.due("take of sixty again", x.take(0), 60);
        Bench.due("the files stay open", x.count(2), 3);
    }

    private static void noSuchFile() {
        Bench.sentence(11, "REFUSED if there is no such file.");
        ArchiveBench x = new ArchiveBench();
        Bench.due("of a new object", x.take(0), ArchiveBench.REFUSED);
        Bench.writeFile(x, "a", 0, 7);
        Bench.due("of a file to be packed", x.take(0), ArchiveBench.REFUSED);
        x.pack(0);
        Bench.due("of an image that is not open", x.take(0), ArchiveBench.REFUSED);
        x.open();
        for (int file : new int[] {-1, 1, 2, 6, 7, 256, Integer.MIN_VALUE, Integer.MAX_VALUE}) {
            Bench.due("take " + file, x.take(file), ArchiveBench.REFUSED);
        }
        Bench.due("nothing is taken", x.count(5), 0);
        Bench.due("take 0", x.take(0), 1);
        x = opened(6, SOUND, SOUND, SOUND, SOUND, SOUND, OTHER);
        Bench.due("the sixth", x.take(5), 1);
        Bench.due("a seventh", x.take(6), ArchiveBench.REFUSED);
    }

    private static void takenBytes() {
        Bench.sentence(12, "The i-th byte of those taken out last;");
        ArchiveBench x = new ArchiveBench();
        Bench.writeFile(x, "a", 0, 7, 0, 255);
        Bench.writeFile(x, "b", 1, 255);
        Bench.writeFile(x, "/", 1, 6);
        Bench.writeFile(x, "a", 1, 6);
        x.pack(0);
        Bench.due("open", x.open(), 4);
        Bench.due("take", x.take(0), 3);
        Bench.due("byte 0", x.taken(0), 7);
        Bench.due("byte 1", x.taken(1), 0);
        Bench.due("byte 2", x.taken(2), 255);
        // What is not taken out changes nothing.
        Bench.due("UNSAFE", x.take(2), ArchiveBench.UNSAFE);
        Bench.due("TWICE", x.take(3), ArchiveBench.TWICE);
        Bench.due("no such file", x.take(4), ArchiveBench.REFUSED);
        Bench.due("taken", Bench.takenOf(x), Bench.list(7, 0, 255));
        Bench.due("take", x.take(1), 1);
        Bench.due("taken", Bench.takenOf(x), Bench.list(255));
        x.put(9, 99);
        x.open();
        Bench.due("WRONG", x.take(0), ArchiveBench.WRONG);
        Bench.due("taken", Bench.takenOf(x), Bench.list(255));
        x.put(x.file(1, 2), 246);
        x.open();
        Bench.due("SPOILED", x.take(1), ArchiveBench.SPOILED);
        Bench.due("taken", Bench.takenOf(x), Bench.list(255));
        x.cut(0);
        x.open();
        Bench.writeFile(x, "c", 0, 8);
        x.pack(1);
        x.open();
        Bench.due("taken behind cut, open, add and pack", Bench.takenOf(x), Bench.list(255));
    }

    private static void noByte() {
        Bench.sentence(12, "REFUSED if there is none.");
        ArchiveBench x = new ArchiveBench();
        Bench.due("of a new object", x.taken(0), ArchiveBench.REFUSED);
        Bench.writeFile(x, "a", 0, 7, 8, 9);
        Bench.writeFile(x, "b", 0);
        Bench.writeName(x, "c");
        x.data(5, 60);
        x.add(2);
        x.pack(0);
        x.open();
        Bench.due("before the first take", x.taken(0), ArchiveBench.REFUSED);
        x.take(2);
        Bench.due("the last of sixty", x.taken(59), 5);
        Bench.due("behind sixty", x.taken(60), ArchiveBench.REFUSED);
        x.take(0);
        Bench.due("the last of three", x.taken(2), 9);
        for (int i : new int[] {-1, 3, 4, 59, 60, 61, Integer.MIN_VALUE, Integer.MAX_VALUE}) {
            Bench.due("taken " + i, x.taken(i), ArchiveBench.REFUSED);
        }
        x.take(1);
        Bench.due("of an empty file", x.taken(0), ArchiveBench.REFUSED);
    }
}
