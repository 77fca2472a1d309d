import java.util.List;

/** Terms, OPENING an index; what comes first, in both forms. */
public final class OpenIndexTest {
    private static final List<Integer> DATA = Bench.list(1, 2, 3, 4, 5);
    private static final int DIRECTORY = 6;
    /** Ten bytes: the name at 2 and 3, the place at 4, how many at 6, the bytes at 7. */
    private static final List<Integer> FIRST = Bench.entry(0, "ab", 1, 3, 3, 0x1234);
    /** Nine bytes. */
    private static final List<Integer> SECOND = Bench.entry(2, "c", 4, 2, 60, 0xFEDC);
    private static final List<Integer> WHOLE = Bench.index(DATA, Bench.joined(FIRST, SECOND), 2);
    private static final int TAIL = 25;

    public static void main(String[] args) {
        lessThanSeven();
        sixthLast();
        moreThanSix();
        placeTooSmall();
        placeTooGreat();
        checks();
        neededBytes();
        asAbove();
        placesBelowOne();
        placesTooGreat();
        whenBothAreKnown();
        bytesLeft();
        whatComesFirst();
        Bench.end();
    }

    private static void dueStrange(String what, List<Integer> image, int i, int b, int place) {
        Bench.dueEnd(what + " " + b, Bench.with(Bench.changed(image, i, b)), ArchiveBench.STRANGE, place);
    }

    private static void lessThanSeven() {
        Bench.sentence(Bench.TERMS, "With 73 it is an INDEX: the image has less than 7 bytes: CUT at its length.");
        ArchiveBench x = Bench.with(Bench.list(73, 88, 0, 0, 1, 255, 255));
        Bench.dueOpen("seven bytes", x, 0);
        for (int n = 6; n >= 1; n--) {
            x.cut(n);
            Bench.dueEnd(n + " bytes", x, ArchiveBench.CUT, n);
        }
        Bench.dueEnd("six bytes with 88", Bench.with(Bench.list(73, 0, 0, 0, 0, 88)), ArchiveBench.CUT, 6);
        Bench.dueEnd("seven zeros", Bench.with(Bench.list(73, 0, 0, 0, 0, 0, 0)), ArchiveBench.STRANGE, 1);
        x = Bench.with(WHOLE);
        Bench.dueOpen("the whole", x, 2);
        int[][] due = {{0, 2, 1, 3, 3, 0x1234, 97, 98, -1}, {2, 1, 4, 2, 60, 0xFEDC, 99, -1, -1}};
        for (int file = 0; file < 2; file++) {
            for (int what = 0; what <= 8; what++) {
                Bench.due("file " + file + " " + what, x.file(file, what < 6 ? what : what + 10), due[file][what]);
            }
        }
    }

    private static void sixthLast() {
        Bench.sentence(Bench.TERMS, "Its sixth last byte is not 88: STRANGE there.");
        for (int b = 0; b <= 255; b++) {
            if (b != 88) {
                dueStrange("instead of 88", WHOLE, TAIL, b, TAIL);
            }
        }
        Bench.dueEnd("a byte too many", Bench.with(WHOLE, Bench.list(0)), ArchiveBench.STRANGE, TAIL + 1);
        Bench.dueEnd("a byte too few", Bench.with(WHOLE.subList(0, TAIL + 5)), ArchiveBench.STRANGE, TAIL - 1);
        // Only the sixth last byte counts, not another 88.
        Bench.dueOpen("88 in the data", Bench.with(Bench.index(Bench.list(88, 88), Bench.list(), 0)), 0);
    }

    private static List<Integer> entries(int n) {
        List<Integer> made = Bench.list();
        for (int i = 0; i < n; i++) {
            made.addAll(Bench.entry(0, "abcdefg".substring(i, i + 1), 1, 0, 0, 65535));
        }
        return made;
    }

    private static void moreThanSix() {
        Bench.sentence(Bench.TERMS, "The files are more than 6: STRANGE at that byte.");
        for (int n = 0; n <= 6; n++) {
            Bench.dueOpen(n + " files", Bench.with(Bench.index(DATA, entries(n), n)), n);
        }
        Bench.dueEnd("7 files", Bench.with(Bench.index(DATA, entries(7), 7)), ArchiveBench.STRANGE, 6 + 63 + 1);
        for (int n = 7; n <= 255; n++) {
            dueStrange("files", WHOLE, TAIL + 1, n, TAIL + 1);
        }
    }

    private static void placeTooSmall() {
        Bench.sentence(Bench.TERMS, "The directory's place is less than 1");
        dueStrange("place", WHOLE, TAIL + 3, 0, TAIL + 2);
        Bench.dueEnd("an index of nothing, place 0", Bench.with(Bench.list(73, 88, 0, 0, 0, 255, 255)),
                ArchiveBench.STRANGE, 3);
        // From place 0 on the CHECK would be right.
        Bench.dueEnd("place 0 with its CHECK", Bench.with(Bench.list(73, 88, 0, 0, 0),
                Bench.number(Bench.check(Bench.list(73)))), ArchiveBench.STRANGE, 3);
        Bench.dueOpen("place 1", Bench.with(Bench.index(Bench.list(), entries(1), 1)), 1);
    }

    private static void placeTooGreat() {
        Bench.sentence(Bench.TERMS, "or above that of the 88: STRANGE at that number's first byte.");
        Bench.dueOpen("the 88's place", Bench.with(Bench.list(73, 9, 9, 88, 0, 0, 3, 255, 255)), 0);
        Bench.dueEnd("one behind", Bench.with(Bench.list(73, 9, 9, 88, 0, 0, 4, 255, 255)), ArchiveBench.STRANGE, 5);
        for (int b = TAIL + 1; b <= 255; b++) {
            dueStrange("place", WHOLE, TAIL + 3, b, TAIL + 2);
        }
        for (int b : new int[] {1, 2, 127, 128, 255}) {
            dueStrange("the place's higher byte", WHOLE, TAIL + 2, b, TAIL + 2);
        }
        Bench.dueEnd("65535", Bench.with(Bench.list(73, 88, 0, 255, 255, 255, 255)), ArchiveBench.STRANGE, 3);
    }

    private static void checks() {
        Bench.sentence(Bench.TERMS, "The CHECK of the bytes from there up to the 88 is wrong: STRANGE at the CHECK's first byte.");
        for (int bit = 0; bit < 8; bit++) {
            dueStrange("CHECK's first byte", WHOLE, TAIL + 4, WHOLE.get(TAIL + 4) ^ 1 << bit, TAIL + 4);
            dueStrange("CHECK's second byte", WHOLE, TAIL + 5, WHOLE.get(TAIL + 5) ^ 1 << bit, TAIL + 4);
        }
        for (int i = DIRECTORY; i < TAIL; i++) {
            dueStrange("the directory's byte " + i, WHOLE, i, WHOLE.get(i) ^ 1, TAIL + 4);
        }
        dueStrange("the directory's place", WHOLE, TAIL + 3, DIRECTORY + 1, TAIL + 4);
        dueStrange("the directory's place", WHOLE, TAIL + 3, DIRECTORY - 1, TAIL + 4);
        Bench.dueEnd("of nothing", Bench.with(Bench.list(73, 88, 0, 0, 1, 0, 0)), ArchiveBench.STRANGE, 5);
        // The data and how many files there are are not in it.
        Bench.dueOpen("a byte of the data", Bench.with(Bench.changed(WHOLE, 3, 99)), 2);
    }

    private static void neededBytes() {
        Bench.sentence(Bench.TERMS, "Then the entries, from the directory's place on: a byte that is needed is the 88's or "
                + "behind it: CUT at the 88's place;");
        List<Integer> entries = Bench.joined(FIRST, SECOND);
        for (int n = 0; n < entries.size(); n++) {
            ArchiveBench x = Bench.with(Bench.index(DATA, entries.subList(0, n), 2));
            Bench.dueEnd("a directory of " + n, x, ArchiveBench.CUT, DIRECTORY + n);
        }
        for (int files = 3; files <= 6; files++) {
            ArchiveBench x = Bench.with(Bench.index(DATA, entries, files));
            Bench.dueEnd(files + " files, two entries", x, ArchiveBench.CUT, TAIL);
        }
        Bench.dueEnd("one file, no entry", Bench.with(Bench.list(73, 88, 1, 0, 1, 255, 255)), ArchiveBench.CUT, 1);
    }

    /** An entry of which one byte is another one, as the first and as the second one, with a right CHECK. */
    private static void dueEntry(String what, int i, int b, int place) {
        List<Integer> entry = Bench.changed(FIRST, i, b);
        Bench.dueEnd(what + " " + b, Bench.with(Bench.index(DATA, entry, 1)), ArchiveBench.STRANGE, DIRECTORY + place);
        Bench.dueEnd(what + " " + b, Bench.with(Bench.index(DATA, Bench.joined(FIRST, entry), 2)), ArchiveBench.STRANGE,
                DIRECTORY + 10 + place);
        // No byte behind is needed, except where a place is tested.
        if (place == i) {
            Bench.dueEnd(what + " " + b + ", then cut", Bench.with(Bench.index(DATA, entry.subList(0, i + 1), 1)),
                    ArchiveBench.STRANGE, DIRECTORY + place);
        }
    }

    private static void asAbove() {
        Bench.sentence(Bench.TERMS, "method, name and bytes as above: STRANGE at that byte;");
        for (int b : new int[] {3, 4, 128, 255}) {
            dueEntry("method", 0, b, 0);
        }
        for (int b : new int[] {0, 9, 10, 255}) {
            dueEntry("name's length", 1, b, 1);
        }
        for (int b : new int[] {0, 45, 48, 65, 96, 123, 255}) {
            dueEntry("first character", 2, b, 2);
            dueEntry("last character", 3, b, 3);
        }
        for (int b : new int[] {61, 62, 255}) {
            dueEntry("bytes", 7, b, 7);
        }
        for (int method = 0; method <= 2; method++) {
            Bench.dueOpen("method", Bench.with(Bench.index(DATA, Bench.entry(method, "a", 1, 0, 60, 0), 1)), 1);
        }
        for (String name : new String[] {"a", "z", ".", "/", "abcdefgh"}) {
            Bench.dueOpen("name", Bench.with(Bench.index(DATA, Bench.entry(0, name, 1, 0, 0, 0), 1)), 1);
        }
        Bench.dueOpen("CHECKs of 0", Bench.with(Bench.index(DATA, Bench.joined(Bench.entry(0, "a", 1, 0, 0, 0),
                Bench.entry(0, "b", 1, 0, 0, 0)), 2)), 2);
    }

    private static void dueRange(int place, int many, boolean right) {
        ArchiveBench x = Bench.with(Bench.index(DATA, Bench.entry(1, "a", place, many, 1, 1), 1));
        if (right) {
            Bench.dueOpen("place " + place + " and " + many, x, 1);
            Bench.due("the place", x.file(0, 2), place);
            Bench.due("how many", x.file(0, 3), many);
        } else {
            Bench.dueEnd("place " + place + " and " + many, x, ArchiveBench.STRANGE, DIRECTORY + 3);
        }
    }

    private static void placesBelowOne() {
        Bench.sentence(Bench.TERMS, "the place is below 1,");
        dueRange(0, 0, false);
        dueRange(0, 1, false);
        dueRange(0, 6, false);
        dueRange(1, 0, true);
        dueRange(1, 1, true);
    }

    private static void placesTooGreat() {
        Bench.sentence(Bench.TERMS, "or the place and how many together are above the directory's place:");
        dueRange(1, 5, true);
        dueRange(1, 6, false);
        dueRange(1, 255, false);
        dueRange(5, 1, true);
        dueRange(5, 2, false);
        dueRange(6, 0, true);
        dueRange(6, 1, false);
        dueRange(7, 0, false);
        dueRange(256, 0, false);
        dueRange(257, 5, false);
        dueRange(65535, 0, false);
        dueRange(65535, 255, false);
        // The same bytes may be those of two files.
        ArchiveBench x = Bench.with(Bench.index(DATA, Bench.joined(Bench.entry(0, "a", 2, 3, 3, Bench.check(Bench.list(2, 3, 4))),
                Bench.entry(0, "b", 1, 5, 5, Bench.check(DATA))), 2));
        Bench.dueOpen("files that lie over each other", x, 2);
        Bench.due("take", x.take(0), 3);
        Bench.due("taken", Bench.takenOf(x), Bench.list(2, 3, 4));
        Bench.due("take", x.take(1), 5);
        Bench.due("taken", Bench.takenOf(x), DATA);
    }

    private static void whenBothAreKnown() {
        Bench.sentence(Bench.TERMS, "STRANGE at the place's first byte (tested when place and how many are known).");
        List<Integer> strange = Bench.entry(0, "ab", 0, 3, 61, 0);
        int at = DIRECTORY + 4;
        Bench.dueEnd("before the bytes", Bench.with(Bench.index(DATA, strange, 1)), ArchiveBench.STRANGE, at);
        Bench.dueEnd("no more than these", Bench.with(Bench.index(DATA, strange.subList(0, 7), 1)), ArchiveBench.STRANGE, at);
        Bench.dueEnd("without how many", Bench.with(Bench.index(DATA, strange.subList(0, 6), 1)), ArchiveBench.CUT, at + 2);
        Bench.dueEnd("half a place", Bench.with(Bench.index(DATA, strange.subList(0, 5), 1)), ArchiveBench.CUT, at + 1);
        List<Integer> great = Bench.entry(0, "ab", 256, 0, 61, 0);
        Bench.dueEnd("before the bytes", Bench.with(Bench.index(DATA, great, 1)), ArchiveBench.STRANGE, at);
        Bench.dueEnd("no more than these", Bench.with(Bench.index(DATA, great.subList(0, 7), 1)), ArchiveBench.STRANGE, at);
        Bench.dueEnd("without how many", Bench.with(Bench.index(DATA, great.subList(0, 6), 1)), ArchiveBench.CUT, at + 2);
        Bench.dueEnd("in a second entry", Bench.with(Bench.index(DATA, Bench.joined(SECOND, strange), 2)),
                ArchiveBench.STRANGE, at + 9);
    }

    private static void bytesLeft() {
        Bench.sentence(Bench.TERMS, "Bytes left before the 88: STRANGE at the first one.");
        List<Integer> two = Bench.joined(FIRST, SECOND);
        Bench.dueEnd("one file, two entries", Bench.with(Bench.index(DATA, two, 1)), ArchiveBench.STRANGE, DIRECTORY + 10);
        Bench.dueEnd("no file, two entries", Bench.with(Bench.index(DATA, two, 0)), ArchiveBench.STRANGE, DIRECTORY);
        for (int b : new int[] {0, 88, 255}) {
            Bench.dueEnd("one byte " + b, Bench.with(Bench.index(DATA, Bench.joined(two, Bench.list(b)), 2)),
                    ArchiveBench.STRANGE, DIRECTORY + 19);
        }
        Bench.dueEnd("behind six", Bench.with(Bench.index(DATA, Bench.joined(entries(6), Bench.list(0)), 6)),
                ArchiveBench.STRANGE, DIRECTORY + 54);
    }

    private static void whatComesFirst() {
        Bench.sentence(Bench.TERMS, "What comes first ends the opening.");
        List<Integer> row = Bench.joined(WHOLE);
        row.set(DIRECTORY, 3);
        dueFaults("a directory's byte", row, TAIL + 4);
        row.set(TAIL + 3, 0);
        dueFaults("the directory's place too", row, TAIL + 2);
        row.set(TAIL + 1, 7);
        dueFaults("the files too", row, TAIL + 1);
        row.set(TAIL, 0);
        dueFaults("the 88 too", row, TAIL);
        row.set(0, 0);
        dueFaults("the first byte too", row, 0);
        List<Integer> strange = Bench.changed(SECOND, 0, 3);
        dueFaults("a strange entry and bytes left", Bench.index(DATA, Bench.joined(strange, Bench.list(0)), 1), DIRECTORY);
        dueFaults("the first of two strange entries", Bench.index(DATA, Bench.joined(FIRST, strange, strange), 3),
                DIRECTORY + 10);
        dueFaults("a strange entry and one that is not there", Bench.index(DATA, strange, 2), DIRECTORY);
        Bench.dueEnd("less than 7 bytes and no 88", Bench.with(Bench.list(73, 1, 7)), ArchiveBench.CUT, 3);

        List<Integer> record = Bench.record(0, "a", 0, 7);
        dueFaults("the first of two strange records", Bench.joined(record, Bench.changed(record, 1, 3),
                Bench.changed(record, 2, 0)), 13);
        dueFaults("a wrong sum and a strange zero", Bench.changed(Bench.changed(record, 8, 0), 10, 1), 8);
        dueFaults("a strange zero and a strange record", Bench.joined(Bench.changed(record, 10, 1), Bench.list(0)), 10);
        dueFaults("a wrong sum and squeezed bytes that are not there", Bench.changed(record, 4, 200), 8);
    }

    private static void dueFaults(String what, List<Integer> image, int place) {
        Bench.dueEnd(what, Bench.with(image), ArchiveBench.STRANGE, place);
    }
}
