import java.util.List;

/** Terms, the IMAGE and its two forms; promise 5: pack. */
public final class PackTest {
    public static void main(String[] args) {
        sixHundred();
        records();
        sums();
        zeros();
        endOfAChain();
        dataOfAnIndex();
        directory();
        tail();
        forms();
        noFilesThen();
        moreThanSixHundred();
        lengths();
        noFileIsOpen();
        Bench.end();
    }

    /** By RUNS each of these bytes makes two, so that a file of 60 has 120. */
    private static void writeGrown(ArchiveBench x) {
        Bench.writeName(x, "abcdefgh");
        for (int i = 0; i < 60; i++) {
            x.data(254 + i % 2, 1);
        }
        x.add(1);
    }

    /** Four files of 120 and one that is kept: the image's length goes with the bytes of the last one. */
    private static ArchiveBench withLast(int bytes) {
        ArchiveBench x = new ArchiveBench();
        for (int i = 0; i < 4; i++) {
            writeGrown(x);
        }
        Bench.writeName(x, "a");
        x.data(1, bytes);
        x.add(0);
        return x;
    }

    private static void sixHundred() {
        Bench.sentence(Bench.TERMS, "The IMAGE is a row of at most 600 bytes.");
        // 1 + 4 * 120 + 40 bytes of data, 4 * 16 + 9 of directory, 6.
        ArchiveBench x = withLast(40);
        Bench.due("an index of 600", x.pack(1), 600);
        Bench.due("length", x.count(1), 600);
        Bench.due("there is a last byte", x.image(599) >= 0 ? 1 : 0, 1);
        Bench.due("a byte more", x.image(600), ArchiveBench.REFUSED);
        Bench.due("put of a byte more", x.put(600, 1), ArchiveBench.FULL);
        Bench.dueOpen("an index of 600", x, 5);
        Bench.due("take", x.take(4), 40);
        Bench.due("take", x.take(0), 60);
        Bench.due("an index of 601", withLast(41).pack(1), ArchiveBench.FULL);
    }

    private static void records() {
        Bench.sentence(Bench.TERMS, "CHAIN, made of the files in order: for each one the byte 67, the method, the length of "
                + "the name, the name, how many squeezed bytes, how many bytes, CHECK of the bytes (2),");
        ArchiveBench x = new ArchiveBench();
        Bench.writeFile(x, "a/b.cdef", 1, 5, 5, 5);
        Bench.writeFile(x, "z", 2);
        Bench.writeFile(x, "z", 0, 1, 2, 3);
        Bench.due("pack", x.pack(0), 45);
        Bench.due("the chain", Bench.imageOf(x), Bench.list(
                67, 1, 8, 'a', '/', 'b', '.', 'c', 'd', 'e', 'f', 2, 3, 136, 60, 199, 249, 5, 0, 0,
                67, 2, 1, 'z', 0, 0, 255, 255, 190, 0, 0, 0,
                67, 0, 1, 'z', 3, 3, 173, 173, 30, 1, 2, 3, 69));
    }

    private static void sums() {
        Bench.sentence(Bench.TERMS, "then the sum of these bytes (from 67 on) & 255, then the squeezed bytes,");
        ArchiveBench x = new ArchiveBench();
        Bench.writeFile(x, "a", 0);
        Bench.writeFile(x, "b", 0, 8);
        Bench.writeFile(x, "h", 0, 218);
        x.pack(0);
        // 67 + 1 + 97 + 255 + 255 = 675; the other two sums are 512.
        Bench.due("675", x.image(8), 163);
        Bench.due("512", x.image(12 + 8), 0);
        Bench.due("512", x.image(24 + 8), 0);
        Bench.due("the byte behind", x.image(12 + 9), 8);
        Bench.due("the byte behind", x.image(24 + 9), 218);
        Bench.dueOpen("the chain", x, 3);
    }

    private static void zeros() {
        Bench.sentence(Bench.TERMS, "then zeros till the image's length can be divided by 4;");
        int[] lengths = {12, 12, 12, 12, 16, 16, 16, 16, 20};
        for (int bytes = 0; bytes < lengths.length; bytes++) {
            ArchiveBench x = new ArchiveBench();
            for (int i = 0; i < 2; i++) {
                Bench.writeName(x, "a");
                if (bytes > 0) {
                    x.data(9, bytes);
                }
                x.add(0);
            }
            int end = lengths[bytes];
            Bench.due(bytes + " bytes: pack", x.pack(0), 2 * end + 1);
            List<Integer> image = Bench.imageOf(x);
            Bench.due(bytes + " bytes: zeros", image.subList(9 + bytes, end), Bench.times(0, end - 9 - bytes));
            Bench.due(bytes + " bytes: the next record", image.get(end), 67);
            Bench.due(bytes + " bytes: zeros", image.subList(end + 9 + bytes, 2 * end), Bench.times(0, end - 9 - bytes));
            Bench.due(bytes + " bytes: the end", image.get(2 * end), 69);
        }
    }

    private static void endOfAChain() {
        Bench.sentence(Bench.TERMS, "behind the last one 69.");
        ArchiveBench x = new ArchiveBench();
        Bench.due("pack of nothing", x.pack(0), 1);
        Bench.due("a chain of nothing", Bench.imageOf(x), Bench.list(69));
        Bench.dueOpen("a chain of nothing", x, 0);
        Bench.writeFile(x, "a", 0, 1, 2, 3);
        Bench.due("pack of one", x.pack(0), 13);
        Bench.due("the last byte", x.image(12), 69);
    }

    private static void dataOfAnIndex() {
        Bench.sentence(Bench.TERMS, "INDEX: the byte 73; the squeezed bytes of all files one behind the other;");
        ArchiveBench x = new ArchiveBench();
        Bench.writeFile(x, "a", 0, 1, 2, 3);
        Bench.writeFile(x, "b", 1, 7, 7, 7, 255);
        Bench.writeFile(x, "c", 0);
        Bench.writeFile(x, "d", 2, 4, 4, 4, 4);
        x.pack(1);
        Bench.due("the data", Bench.imageOf(x).subList(0, 12), Bench.list(73, 1, 2, 3, 249, 7, 247, 255, 0, 4, 32, 0));
    }

    private static void directory() {
        Bench.sentence(Bench.TERMS, "then the DIRECTORY: for each file the method, the length of the name, the name, the place "
                + "in the image where its squeezed bytes begin (2), how many, how many bytes, CHECK of the bytes (2);");
        ArchiveBench x = new ArchiveBench();
        Bench.writeFile(x, "e", 2);
        Bench.writeFile(x, "z", 0, 1, 2, 3);
        Bench.writeFile(x, "a/b.cdef", 1, 5, 5, 5);
        Bench.writeFile(x, "e", 0);
        Bench.due("pack", x.pack(1), 55);
        Bench.due("the index", Bench.imageOf(x).subList(0, 49), Bench.list(73, 1, 2, 3, 249, 5,
                2, 1, 'e', 0, 1, 0, 0, 255, 255,
                0, 1, 'z', 0, 1, 3, 3, 173, 173,
                1, 8, 'a', '/', 'b', '.', 'c', 'd', 'e', 'f', 0, 4, 2, 3, 136, 60,
                0, 1, 'e', 0, 6, 0, 0, 255, 255));
    }

    private static void tail() {
        Bench.sentence(Bench.TERMS, "then 88, how many files, the place where the directory begins (2), "
                + "CHECK of the directory (2).");
        ArchiveBench x = new ArchiveBench();
        Bench.due("pack of nothing", x.pack(1), 7);
        Bench.due("an index of nothing", Bench.imageOf(x), Bench.list(73, 88, 0, 0, 1, 255, 255));
        Bench.dueOpen("an index of nothing", x, 0);
        Bench.writeFile(x, "a", 0);
        Bench.due("pack of one", x.pack(1), 16);
        List<Integer> entry = Bench.list(0, 1, 'a', 0, 1, 0, 0, 255, 255);
        Bench.due("the tail", Bench.imageOf(x).subList(10, 16),
                Bench.joined(Bench.list(88, 1, 0, 1), Bench.number(Bench.check(entry))));
        for (int i = 0; i < 6; i++) {
            Bench.writeFile(x, "a", 0, i);
        }
        Bench.due("pack of six", x.pack(1), 67);
        List<Integer> image = Bench.imageOf(x);
        Bench.due("the tail", image.subList(61, 67),
                Bench.joined(Bench.list(88, 6, 0, 7), Bench.number(Bench.check(image.subList(7, 61)))));
    }

    private static void forms() {
        Bench.sentence(5, "The image becomes the files packed in a form 0, 1;");
        ArchiveBench x = new ArchiveBench();
        Bench.writeFile(x, "b", 0, 1);
        for (int form : new int[] {-1, 2, 3, 256, Integer.MIN_VALUE, Integer.MAX_VALUE}) {
            Bench.due("pack " + form, x.pack(form), ArchiveBench.REFUSED);
        }
        Bench.due("files", x.count(0), 1);
        Bench.due("length", x.count(1), 0);
        x.put(0, 1);
        x.put(1, 2);
        Bench.due("pack 0", x.pack(0), 13);
        Bench.due("the first byte", x.image(0), 67);
        Bench.writeFile(x, "b", 0, 1);
        Bench.due("pack 1", x.pack(1), 17);
        Bench.due("the first byte", x.image(0), 73);
        // A shorter image leaves nothing of the longer one.
        Bench.due("pack 1 of nothing", x.pack(1), 7);
        Bench.due("behind the end", x.image(7), ArchiveBench.REFUSED);
        Bench.due("pack 0 of nothing", x.pack(0), 1);
        Bench.due("behind the end", x.image(1), ArchiveBench.REFUSED);
    }

    private static void noFilesThen() {
        Bench.sentence(5, "there are no files to be packed then.");
        for (int form = 0; form <= 1; form++) {
            ArchiveBench x = new ArchiveBench();
            for (int i = 0; i < 6; i++) {
                Bench.writeFile(x, "a", 0, i);
            }
            Bench.writeName(x, "bc");
            x.data(4, 3);
            x.pack(form);
            Bench.due("files", x.count(0), 0);
            Bench.due("characters written stay", x.count(3), 2);
            Bench.due("bytes written stay", x.count(4), 3);
            Bench.due("add", x.add(0), 0);
            x.pack(form);
            Bench.dueOpen("what was packed last", x, 1);
            Bench.due("its name", x.file(0, 16), 'b');
            x.pack(form);
            Bench.dueOpen("nothing was left", x, 0);
        }
    }

    private static void moreThanSixHundred() {
        Bench.sentence(5, "It would have more than 600 bytes: FULL.");
        // A chain's length is one more than what can be divided by 4: 597, then 601.
        Bench.due("a chain of 597", withLast(43).pack(0), 597);
        Bench.due("a chain of 601", withLast(44).pack(0), ArchiveBench.FULL);
        Bench.due("an index of 600", withLast(40).pack(1), 600);
        Bench.due("an index of 601", withLast(41).pack(1), ArchiveBench.FULL);
        for (int form = 0; form <= 1; form++) {
            ArchiveBench x = new ArchiveBench();
            Bench.writeFile(x, "a", 0, 1);
            x.pack(0);
            x.open();
            x.take(0);
            for (int i = 0; i < 5; i++) {
                writeGrown(x);
            }
            Bench.writeName(x, "b");
            List<Integer> before = Bench.stateOf(x);
            Bench.due("pack of five", x.pack(form), ArchiveBench.FULL);
            Bench.due("the state", Bench.stateOf(x), before);
            Bench.due("files", x.count(0), 5);
            Bench.due("a sixth file", x.add(0), 5);
            Bench.due("pack of six", x.pack(form), ArchiveBench.FULL);
            Bench.due("files", x.count(0), 6);
        }
        // Too long in one form, not in the other.
        ArchiveBench x = withLast(42);
        Bench.due("an index of 602", x.pack(1), ArchiveBench.FULL);
        Bench.due("a chain of 597", x.pack(0), 597);
        Bench.dueOpen("the chain", x, 5);
        Bench.due("take", x.take(4), 42);
        // Six files of 120 make the longest images that could be asked for.
        x = new ArchiveBench();
        for (int i = 0; i < 6; i++) {
            writeGrown(x);
        }
        Bench.due("a chain of 817", x.pack(0), ArchiveBench.FULL);
        Bench.due("an index of 823", x.pack(1), ArchiveBench.FULL);
        Bench.due("files", x.count(0), 6);
        Bench.due("length", x.count(1), 0);
    }

    private static void lengths() {
        Bench.sentence(5, "Else its length.");
        ArchiveBench x = new ArchiveBench();
        for (int form = 0; form <= 1; form++) {
            for (int bytes = 1; bytes <= 9; bytes++) {
                Bench.writeName(x, "ab");
                x.data(1, bytes);
                x.add(0);
                int length = form == 0 ? (10 + bytes + 3) / 4 * 4 + 1 : 1 + bytes + 10 + 6;
                Bench.due("pack of " + bytes, x.pack(form), length);
                Bench.due("length", x.count(1), length);
            }
        }
    }

    private static void noFileIsOpen() {
        Bench.sentence(5, "(No file is open.)");
        for (int form = 0; form <= 1; form++) {
            ArchiveBench x = new ArchiveBench();
            Bench.writeFile(x, "a", 0, 1);
            x.pack(form);
            Bench.due("open files before the first open", x.count(2), 0);
            Bench.due("open", x.open(), 1);
            Bench.due("take", x.take(0), 1);
            Bench.due("a refused pack", x.pack(2), ArchiveBench.REFUSED);
            Bench.due("open files", x.count(2), 1);
            x.pack(form);
            Bench.due("open files", x.count(2), 0);
            Bench.due("take", x.take(0), ArchiveBench.REFUSED);
            Bench.due("file", x.file(0, 0), ArchiveBench.REFUSED);
            Bench.due("what was taken out stays", x.count(5), 1);
        }
    }
}
