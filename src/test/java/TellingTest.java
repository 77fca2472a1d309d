/** Promises 13 and 14: file, count. */
public final class TellingTest {
    public static void main(String[] args) {
        files();
        characters();
        nothingElseOfFiles();
        filesToBePacked();
        lengthOfTheImage();
        openFiles();
        charactersWritten();
        bytesWritten();
        bytesTakenOut();
        nothingElse();
        Bench.end();
    }

    private static void dueFile(ArchiveBench x, int file, int... due) {
        for (int what = 0; what < due.length; what++) {
            Bench.due("file " + file + " " + what, x.file(file, what), due[what]);
        }
    }

    private static ArchiveBench opened(int form) {
        ArchiveBench x = new ArchiveBench();
        Bench.writeFile(x, "abcdefgh", 1, 5, 5, 5, 5);
        Bench.writeFile(x, "./z", 2, 1, 2);
        Bench.writeFile(x, "q", 0);
        x.pack(form);
        Bench.due("open", x.open(), 3);
        return x;
    }

    private static void files() {
        Bench.sentence(13, "Of an open file: method (0), length of the name (1), place of its squeezed bytes in the image (2), "
                + "how many (3), bytes (4), CHECK (5),");
        ArchiveBench x = opened(0);
        dueFile(x, 0, 1, 8, 16, 2, 4, Bench.check(Bench.list(5, 5, 5, 5)));
        dueFile(x, 1, 2, 3, 31, 3, 2, Bench.check(Bench.list(1, 2)));
        dueFile(x, 2, 0, 1, 45, 0, 0, 65535);
        x = opened(1);
        dueFile(x, 0, 1, 8, 1, 2, 4, Bench.check(Bench.list(5, 5, 5, 5)));
        dueFile(x, 1, 2, 3, 3, 3, 2, Bench.check(Bench.list(1, 2)));
        dueFile(x, 2, 0, 1, 6, 0, 0, 65535);
        // The CHECK is that of the image, right or not.
        x = Bench.with(Bench.record(2, "a", 60, 0, 9), Bench.list(69));
        x.open();
        dueFile(x, 0, 2, 1, 9, 1, 60, 0);
    }

    private static void characters() {
        Bench.sentence(13, "and 16 + i: character i of the name;");
        for (int form = 0; form <= 1; form++) {
            ArchiveBench x = opened(form);
            for (int i = 0; i < 8; i++) {
                Bench.due("character " + i, x.file(0, 16 + i), 'a' + i);
                Bench.due("character " + i, x.file(1, 16 + i), i < 3 ? "./z".charAt(i) : ArchiveBench.REFUSED);
            }
            Bench.due("behind eight", x.file(0, 24), ArchiveBench.REFUSED);
            // A shorter name in the place of a longer one.
            Bench.writeFile(x, "z", 2, 1, 2);
            x.pack(form);
            Bench.due("open", x.open(), 1);
            Bench.due("its name", x.file(0, 16), 'z');
            Bench.due("no more of its name", x.file(0, 17), ArchiveBench.REFUSED);
        }
    }

    private static void nothingElseOfFiles() {
        Bench.sentence(13, "else REFUSED.");
        ArchiveBench x = new ArchiveBench();
        Bench.due("of a new object", x.file(0, 0), ArchiveBench.REFUSED);
        Bench.writeFile(x, "a", 0, 1);
        Bench.due("of a file to be packed", x.file(0, 0), ArchiveBench.REFUSED);
        x.pack(0);
        Bench.due("of an image that is not open", x.file(0, 0), ArchiveBench.REFUSED);
        x = opened(0);
        for (int what : new int[] {-1, 6, 7, 8, 9, 10, 11, 12, 13, 14, 15, 24, 25, 32, 99, 256, Integer.MIN_VALUE,
            Integer.MIN_VALUE + 16, Integer.MAX_VALUE}) {
            Bench.due("file 0 " + what, x.file(0, what), ArchiveBench.REFUSED);
        }
        for (int file : new int[] {-1, 3, 4, 5, 6, 7, 256, Integer.MIN_VALUE, Integer.MAX_VALUE}) {
            for (int what : new int[] {0, 1, 2, 3, 4, 5, 16}) {
                Bench.due("file " + file + " " + what, x.file(file, what), ArchiveBench.REFUSED);
            }
        }
        x.put(0, 70);
        x.open();
        Bench.due("behind an open that failed", x.file(0, 0), ArchiveBench.REFUSED);
    }

    private static void filesToBePacked() {
        Bench.sentence(14, "Files to be packed (0),");
        ArchiveBench x = new ArchiveBench();
        for (int i = 0; i < 6; i++) {
            Bench.due("count", x.count(0), i);
            Bench.writeFile(x, "a", 0, i);
        }
        Bench.due("count of six", x.count(0), 6);
        x.name('a');
        x.add(0);
        Bench.due("count behind FULL", x.count(0), 6);
        x.pack(0);
        Bench.due("count behind pack", x.count(0), 0);
        x.open();
        Bench.due("count behind open", x.count(0), 0);
    }

    private static void lengthOfTheImage() {
        Bench.sentence(14, "the image's length (1),");
        ArchiveBench x = new ArchiveBench();
        Bench.due("count", x.count(1), 0);
        x.put(0, 1);
        x.put(1, 1);
        Bench.due("count behind put", x.count(1), 2);
        x.cut(1);
        Bench.due("count behind cut", x.count(1), 1);
        x.pack(1);
        Bench.due("count behind pack", x.count(1), 7);
        x.open();
        Bench.due("count behind open", x.count(1), 7);
    }

    private static void openFiles() {
        Bench.sentence(14, "open files (2),");
        ArchiveBench x = new ArchiveBench();
        Bench.writeFile(x, "a", 0, 1);
        Bench.writeFile(x, "b", 0, 1);
        Bench.due("count", x.count(2), 0);
        x.pack(0);
        Bench.due("count behind pack", x.count(2), 0);
        x.open();
        Bench.due("count behind open", x.count(2), 2);
        x.take(0);
        Bench.due("count behind take", x.count(2), 2);
        x.put(0, 70);
        Bench.due("count behind put", x.count(2), 0);
        x.open();
        Bench.due("count behind an open that failed", x.count(2), 0);
        x.put(0, 67);
        x.open();
        x.cut(20);
        Bench.due("count behind cut", x.count(2), 0);
    }

    private static void charactersWritten() {
        Bench.sentence(14, "characters written (3),");
        ArchiveBench x = new ArchiveBench();
        for (int i = 0; i < 8; i++) {
            Bench.due("count", x.count(3), i);
            x.name('a');
        }
        x.name('a');
        Bench.due("count behind FULL", x.count(3), 8);
        x.pack(0);
        x.open();
        Bench.due("count behind pack and open", x.count(3), 8);
        x.add(0);
        Bench.due("count behind add", x.count(3), 0);
    }

    private static void bytesWritten() {
        Bench.sentence(14, "bytes written (4),");
        ArchiveBench x = new ArchiveBench();
        Bench.due("count", x.count(4), 0);
        x.data(1, 59);
        Bench.due("count", x.count(4), 59);
        x.data(1, 2);
        Bench.due("count behind FULL", x.count(4), 59);
        x.data(1, 1);
        Bench.due("count", x.count(4), 60);
        x.pack(0);
        x.open();
        Bench.due("count behind pack and open", x.count(4), 60);
        x.name('a');
        x.add(0);
        Bench.due("count behind add", x.count(4), 0);
    }

    private static void bytesTakenOut() {
        Bench.sentence(14, "bytes taken out last (5);");
        ArchiveBench x = opened(0);
        Bench.due("count", x.count(5), 0);
        x.take(0);
        Bench.due("count", x.count(5), 4);
        x.take(1);
        Bench.due("count", x.count(5), 2);
        x.take(3);
        Bench.due("count behind a refused take", x.count(5), 2);
        x.pack(0);
        x.open();
        Bench.due("count behind pack and open", x.count(5), 2);
        x = opened(1);
        x.take(0);
        x.take(2);
        Bench.due("count of an empty file", x.count(5), 0);
    }

    private static void nothingElse() {
        Bench.sentence(14, "else REFUSED.");
        ArchiveBench x = opened(0);
        for (int what : new int[] {-1, 6, 7, 16, 256, Integer.MIN_VALUE, Integer.MAX_VALUE}) {
            Bench.due("count " + what, x.count(what), ArchiveBench.REFUSED);
        }
        // All of them at once, each another number.
        x.take(0);
        Bench.writeFile(x, "a", 0);
        Bench.writeName(x, "ab");
        x.data(1, 7);
        int[] due = {1, 49, 3, 2, 7, 4};
        for (int what = 0; what <= 5; what++) {
            Bench.due("count " + what, x.count(what), due[what]);
        }
    }
}
