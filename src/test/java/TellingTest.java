/** Promises 13 and 14: file, count. */
public final class TellingTest {
    public static void main(String[] args) {
        files();
        filesOfAnotherImage();
        counts();
        Bench.end();
    }

    private static void files() {
        ArchiveBench x = new ArchiveBench();
        Bench.writeFile(x, "abcdefgh", 1, 5, 5, 5, 5);
        Bench.writeFile(x, "./z", 2, 1, 2);
        Bench.due("file before open", x.file(0, 0), ArchiveBench.REFUSED);
        x.pack(0);
        Bench.due("file before open", x.file(0, 0), ArchiveBench.REFUSED);
        Bench.due("open", x.open(), 2);
        dueFile(x, 0, 1, 8, 16, 2, 4, Bench.check(Bench.list(5, 5, 5, 5)));
        dueFile(x, 1, 2, 3, 31, 3, 2, Bench.check(Bench.list(1, 2)));
        for (int i = 0; i < 8; i++) {
            Bench.due("character " + i, x.file(0, 16 + i), 'a' + i);
            Bench.due("character " + i, x.file(1, 16 + i), i < 3 ? "./z".charAt(i) : ArchiveBench.REFUSED);
        }
        for (int what : new int[] {-1, 6, 7, 15, 24, 25, Integer.MIN_VALUE, Integer.MAX_VALUE}) {
            Bench.due("file 0 " + what, x.file(0, what), ArchiveBench.REFUSED);
        }
        for (int file : new int[] {-1, 2, 6, 7, Integer.MIN_VALUE, Integer.MAX_VALUE}) {
            Bench.due("file " + file, x.file(file, 0), ArchiveBench.REFUSED);
        }
    }

    private static void filesOfAnotherImage() {
        ArchiveBench x = new ArchiveBench();
        Bench.writeFile(x, "abcde", 1, 5, 5, 5, 5);
        x.pack(0);
        x.open();
        Bench.writeFile(x, "z", 2, 1, 2);
        x.pack(1);
        Bench.due("open", x.open(), 1);
        dueFile(x, 0, 2, 1, 1, 3, 2, Bench.check(Bench.list(1, 2)));
        Bench.due("its name", x.file(0, 16), 'z');
        Bench.due("no more of its name", x.file(0, 17), ArchiveBench.REFUSED);
    }

    private static void dueFile(ArchiveBench x, int file, int... due) {
        for (int what = 0; what < due.length; what++) {
            Bench.due("file " + file + " " + what, x.file(file, what), due[what]);
        }
    }

    private static void counts() {
        ArchiveBench x = new ArchiveBench();
        Bench.writeFile(x, "a", 0, 1, 2, 3, 4, 5);
        Bench.writeFile(x, "b", 0);
        Bench.writeFile(x, "b", 0, 1);
        int length = x.pack(0);
        x.open();
        x.take(0);
        Bench.writeFile(x, "a", 0);
        x.name('a');
        x.name('b');
        x.data(1, 7);
        int[] due = {1, length, 3, 2, 7, 5};
        for (int what = 0; what <= 5; what++) {
            Bench.due("count " + what, x.count(what), due[what]);
        }
        for (int what : new int[] {-1, 6, Integer.MIN_VALUE, Integer.MAX_VALUE}) {
            Bench.due("count " + what, x.count(what), ArchiveBench.REFUSED);
        }
        x.put(0, 70);
        x.open();
        Bench.due("open files behind an open that failed", x.count(2), 0);
    }
}
