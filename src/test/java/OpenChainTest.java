import java.util.List;

/** Terms, OPENING a chain. */
public final class OpenChainTest {
    /** Sixteen bytes: a head of ten with the sum at 9, five squeezed bytes, one zero. */
    private static final List<Integer> RECORD = Bench.record(0, "ab", 5, 0x1234, 1, 2, 3, 4, 5);
    /** Twelve bytes: a head of nine with the sum at 8, three zeros. */
    private static final List<Integer> SMALL = Bench.record(0, "a", 0, 65535);
    private static final List<Integer> END = Bench.list(69);

    public static void main(String[] args) {
        noArchive();
        neededBytes();
        endOfTheChain();
        noRecord();
        methods();
        lengthsOfNames();
        charactersOfNames();
        manyBytes();
        asTheyCome();
        sums();
        sevenRecords();
        squeezedBytesAndZeros();
        strangeZeros();
        Bench.end();
    }

    private static void noArchive() {
        Bench.sentence(Bench.TERMS, "OPENING the image, whatever it is. It is empty, or its first byte is none of 67, 69, 73: "
                + "STRANGE at 0.");
        Bench.dueEnd("an empty image", new ArchiveBench(), ArchiveBench.STRANGE, 0);
        ArchiveBench x = Bench.with(SMALL, END);
        x.open();
        x.cut(0);
        Bench.dueEnd("an image that was cut", x, ArchiveBench.STRANGE, 0);
        for (int b = 0; b <= 255; b++) {
            if (b != 67 && b != 69 && b != 73) {
                Bench.dueEnd("first byte " + b, Bench.with(Bench.list(b)), ArchiveBench.STRANGE, 0);
            }
        }
        for (int b : new int[] {0, 66, 68, 70, 72, 74, 88}) {
            Bench.dueEnd("first byte " + b, Bench.with(Bench.changed(RECORD, 0, b), END), ArchiveBench.STRANGE, 0);
        }
    }

    private static void neededBytes() {
        Bench.sentence(Bench.TERMS, "With 67 or 69 it is a CHAIN; from place 0 on: a byte that is needed is not there: "
                + "CUT at the image's length.");
        Bench.dueEnd("67 alone", Bench.with(Bench.list(67)), ArchiveBench.CUT, 1);
        ArchiveBench x = Bench.with(RECORD, SMALL, END);
        Bench.dueOpen("the whole", x, 2);
        for (int n = 28; n >= 1; n--) {
            x.cut(n);
            Bench.dueEnd("the first " + n, x, ArchiveBench.CUT, n);
        }
        x = Bench.with(Bench.record(2, "abcdefgh", 60, 0), END);
        for (int n = 16; n >= 1; n--) {
            x.cut(n);
            Bench.dueEnd("the first " + n, x, ArchiveBench.CUT, n);
        }
    }

    private static void endOfTheChain() {
        Bench.sentence(Bench.TERMS, "The byte is 69: that is all (what stands behind is not looked at).");
        Bench.dueOpen("69 alone", Bench.with(END), 0);
        for (int b : new int[] {0, 67, 68, 69, 73, 255}) {
            Bench.dueOpen("69 and " + b, Bench.with(END, Bench.list(b)), 0);
            Bench.dueOpen("a record, 69 and " + b, Bench.with(RECORD, END, Bench.list(b, 9, 9)), 1);
        }
        Bench.dueOpen("a record behind the end", Bench.with(SMALL, END, SMALL, END), 1);
    }

    private static void noRecord() {
        Bench.sentence(Bench.TERMS, "It is not 67: STRANGE there.");
        for (int b = 0; b <= 255; b++) {
            if (b != 67 && b != 69) {
                Bench.dueEnd("second record " + b, Bench.with(SMALL, Bench.list(b)), ArchiveBench.STRANGE, 12);
            }
        }
        Bench.dueEnd("third record 73", Bench.with(SMALL, RECORD, Bench.changed(SMALL, 0, 73), END), ArchiveBench.STRANGE, 28);
    }

    /** A record of which one byte is another one is STRANGE at that byte, as the first and as the second one. */
    private static void dueStrange(String what, int i, int b) {
        List<Integer> changed = Bench.changed(RECORD, i, b);
        Bench.dueEnd(what + " " + b, Bench.with(changed, END), ArchiveBench.STRANGE, i);
        Bench.dueEnd(what + " " + b, Bench.with(RECORD, changed, END), ArchiveBench.STRANGE, 16 + i);
        // Nothing behind that byte is needed.
        Bench.dueEnd(what + " " + b + ", then cut", Bench.with(changed.subList(0, i + 1)), ArchiveBench.STRANGE, i);
    }

    private static void methods() {
        Bench.sentence(Bench.TERMS, "The method is above 2,");
        for (int method = 0; method <= 2; method++) {
            ArchiveBench x = Bench.with(Bench.record(method, "a", 0, 0), END);
            Bench.dueOpen("method " + method, x, 1);
            Bench.due("the method", x.file(0, 0), method);
        }
        for (int method = 3; method <= 255; method++) {
            dueStrange("method", 1, method);
        }
    }

    private static void lengthsOfNames() {
        Bench.sentence(Bench.TERMS, "or the name's length is not 1 .. 8,");
        for (int n = 1; n <= 8; n++) {
            ArchiveBench x = Bench.with(Bench.record(0, "abcdefgh".substring(0, n), 0, 0), END);
            Bench.dueOpen("a name of " + n, x, 1);
            Bench.due("the length", x.file(0, 1), n);
        }
        dueStrange("a name of", 2, 0);
        for (int n = 9; n <= 255; n++) {
            dueStrange("a name of", 2, n);
        }
        Bench.dueEnd("nine with a right sum", Bench.with(Bench.record(0, "abcdefghi", 0, 0), END), ArchiveBench.STRANGE, 2);
        Bench.dueEnd("none with a right sum", Bench.with(Bench.record(0, "", 0, 0), END), ArchiveBench.STRANGE, 2);
    }

    private static void charactersOfNames() {
        Bench.sentence(Bench.TERMS, "or a byte of the name is not a character of names,");
        for (int b = 0; b <= 255; b++) {
            String name = String.valueOf((char) b);
            if (b >= 97 && b <= 122 || b == 46 || b == 47) {
                ArchiveBench x = Bench.with(Bench.record(0, name, 0, 0), END);
                Bench.dueOpen("character " + b, x, 1);
                Bench.due("the character", x.file(0, 16), b);
            } else {
                dueStrange("first character", 3, b);
                dueStrange("last character", 4, b);
                Bench.dueEnd(b + " with a right sum", Bench.with(Bench.record(0, name, 0, 0), END), ArchiveBench.STRANGE, 3);
            }
        }
        for (int i = 0; i < 8; i++) {
            String name = "abcdefgh".substring(0, i) + "@" + "abcdefgh".substring(i + 1);
            Bench.dueEnd(name, Bench.with(Bench.record(0, name, 0, 0), END), ArchiveBench.STRANGE, 3 + i);
        }
    }

    private static void manyBytes() {
        Bench.sentence(Bench.TERMS, "or the bytes are above 60:");
        for (int bytes : new int[] {0, 1, 59, 60}) {
            ArchiveBench x = Bench.with(Bench.record(0, "a", bytes, 0), END);
            Bench.dueOpen(bytes + " bytes", x, 1);
            Bench.due("the bytes", x.file(0, 4), bytes);
        }
        for (int bytes = 61; bytes <= 255; bytes++) {
            dueStrange("bytes", 6, bytes);
        }
        Bench.dueEnd("61 with a right sum", Bench.with(Bench.record(0, "a", 61, 0), END), ArchiveBench.STRANGE, 5);
        // How many squeezed bytes there are has no such bound.
        ArchiveBench x = Bench.with(Bench.record(1, "a", 0, 7, new int[255]), END);
        Bench.dueOpen("255 squeezed bytes", x, 1);
        Bench.due("how many", x.file(0, 3), 255);
    }

    private static void asTheyCome() {
        Bench.sentence(Bench.TERMS, "STRANGE at that byte (tested as the bytes come).");
        Bench.dueEnd("method and name's length", Bench.with(Bench.list(67, 3, 0)), ArchiveBench.STRANGE, 1);
        Bench.dueEnd("name's length and a character", Bench.with(Bench.list(67, 0, 9, 64)), ArchiveBench.STRANGE, 2);
        Bench.dueEnd("two characters", Bench.with(Bench.list(67, 0, 2, 64, 64)), ArchiveBench.STRANGE, 3);
        Bench.dueEnd("a character and bytes", Bench.with(Bench.list(67, 0, 1, 64, 0, 61)), ArchiveBench.STRANGE, 3);
        Bench.dueEnd("a character that is not there", Bench.with(Bench.list(67, 0, 2, 97)), ArchiveBench.CUT, 4);
        Bench.dueEnd("a character and one that is not there", Bench.with(Bench.list(67, 0, 2, 64)), ArchiveBench.STRANGE, 3);
        Bench.dueEnd("bytes and what is not there", Bench.with(Bench.list(67, 0, 1, 97, 0, 61)), ArchiveBench.STRANGE, 5);
        Bench.dueEnd("bytes and a wrong sum", Bench.with(Bench.list(67, 0, 1, 97, 0, 61, 0, 0, 0)), ArchiveBench.STRANGE, 5);
        Bench.dueEnd("too many squeezed and too many bytes", Bench.with(Bench.list(67, 0, 1, 97, 255, 61)),
                ArchiveBench.STRANGE, 5);
    }

    private static void sums() {
        Bench.sentence(Bench.TERMS, "The sum is wrong: STRANGE at the sum.");
        int right = RECORD.get(9);
        for (int b = 0; b <= 255; b++) {
            if (b != right) {
                Bench.dueEnd("sum " + b, Bench.with(Bench.changed(RECORD, 9, b), END), ArchiveBench.STRANGE, 9);
            }
        }
        // Bytes that are fine by themselves are told by the sum alone.
        for (int i : new int[] {1, 3, 4, 5, 6, 7, 8}) {
            List<Integer> changed = Bench.changed(RECORD, i, RECORD.get(i) + 1);
            Bench.dueEnd("byte " + i, Bench.with(changed, END), ArchiveBench.STRANGE, 9);
            Bench.dueEnd("byte " + i, Bench.with(RECORD, changed, END), ArchiveBench.STRANGE, 16 + 9);
            Bench.dueEnd("byte " + i + ", then cut", Bench.with(changed.subList(0, 10)), ArchiveBench.STRANGE, 9);
        }
        // What stands behind is not in the sum.
        Bench.dueOpen("a squeezed byte", Bench.with(Bench.changed(RECORD, 12, 255), END), 1);
        // 256 and 255, on both sides of where the sum begins anew.
        Bench.dueOpen("a sum of 256", Bench.with(Bench.list(67, 0, 1, 97, 0, 0, 0, 91, 0, 0, 0, 0, 69)), 1);
        Bench.dueOpen("a sum of 255", Bench.with(Bench.list(67, 0, 1, 97, 0, 0, 0, 90, 255, 0, 0, 0, 69)), 1);
        Bench.dueOpen("a sum of 165", Bench.with(Bench.list(67, 0, 1, 97, 0, 0, 0, 0, 165, 0, 0, 0, 69)), 1);
        Bench.dueOpen("a sum of 675", Bench.with(Bench.list(67, 0, 1, 97, 0, 0, 255, 255, 163, 0, 0, 0, 69)), 1);
    }

    private static void sevenRecords() {
        Bench.sentence(Bench.TERMS, "There are 6 files already: FULL at the 67.");
        List<Integer> six = Bench.joined(SMALL, SMALL, SMALL, SMALL, SMALL, SMALL);
        Bench.dueOpen("six", Bench.with(six, END), 6);
        Bench.dueEnd("six and no end", Bench.with(six), ArchiveBench.CUT, 72);
        Bench.dueEnd("six and a strange byte", Bench.with(six, Bench.list(70)), ArchiveBench.STRANGE, 72);
        Bench.dueEnd("seven", Bench.with(six, SMALL, END), ArchiveBench.FULL, 72);
        Bench.dueEnd("eight", Bench.with(six, SMALL, SMALL, END), ArchiveBench.FULL, 72);
        Bench.dueEnd("seven of another length", Bench.with(six.subList(0, 60), RECORD, SMALL, END), ArchiveBench.FULL, 76);
        // Told behind the head's faults and before the squeezed bytes.
        for (int n = 1; n <= 8; n++) {
            Bench.dueEnd("a seventh of " + n, Bench.with(six, SMALL.subList(0, n)), ArchiveBench.CUT, 72 + n);
        }
        Bench.dueEnd("a seventh by a strange method", Bench.with(six, Bench.changed(SMALL, 1, 3)), ArchiveBench.STRANGE, 73);
        Bench.dueEnd("a seventh with a wrong sum", Bench.with(six, Bench.changed(SMALL, 8, 3)), ArchiveBench.STRANGE, 80);
        Bench.dueEnd("a seventh without its zeros", Bench.with(six, SMALL.subList(0, 9)), ArchiveBench.FULL, 72);
        Bench.dueEnd("a seventh with a strange zero", Bench.with(six, Bench.changed(SMALL, 11, 1)), ArchiveBench.FULL, 72);
    }

    private static void squeezedBytesAndZeros() {
        Bench.sentence(Bench.TERMS, "The squeezed bytes and zeros must be there: CUT at the image's length;");
        for (int many = 0; many <= 7; many++) {
            List<Integer> row = Bench.record(0, "a", many, 7, Bench.array(Bench.times(8, many)));
            Bench.due("the record's length", row.size(), many <= 3 ? 12 : 16);
            for (int n = 9; n < row.size(); n++) {
                Bench.dueEnd(many + " bytes, " + n + " of all", Bench.with(row.subList(0, n)), ArchiveBench.CUT, n);
            }
            Bench.dueEnd(many + " bytes and no end", Bench.with(row), ArchiveBench.CUT, row.size());
            Bench.dueOpen(many + " bytes", Bench.with(row, END), 1);
        }
        List<Integer> long255 = Bench.record(0, "a", 0, 7, new int[255]);
        Bench.due("the record's length", long255.size(), 264);
        Bench.dueEnd("the last of 255 is not there", Bench.with(long255.subList(0, 263)), ArchiveBench.CUT, 263);
        Bench.dueEnd("none of 255 is there", Bench.with(long255.subList(0, 9), END), ArchiveBench.CUT, 10);
        // All must be there before one is looked at.
        List<Integer> row = Bench.changed(Bench.record(0, "a", 0, 7), 9, 1);
        Bench.dueEnd("no zero, and one that is not there", Bench.with(row.subList(0, 11)), ArchiveBench.CUT, 11);
    }

    private static void strangeZeros() {
        Bench.sentence(Bench.TERMS, "one of the zeros is not 0: STRANGE there.");
        for (int many = 0; many <= 7; many++) {
            List<Integer> row = Bench.record(0, "a", many, 7, new int[many]);
            for (int i = 9 + many; i < row.size(); i++) {
                for (int b : new int[] {1, 67, 69, 255}) {
                    List<Integer> changed = Bench.changed(row, i, b);
                    Bench.dueEnd(b + " at " + i, Bench.with(changed, END), ArchiveBench.STRANGE, i);
                    Bench.dueEnd(b + " at " + i + " and no end", Bench.with(changed), ArchiveBench.STRANGE, i);
                    Bench.dueEnd(b + " at 12 + " + i, Bench.with(SMALL, changed, END), ArchiveBench.STRANGE, 12 + i);
                }
            }
        }
        List<Integer> three = Bench.joined(SMALL.subList(0, 9), Bench.list(0, 2, 3));
        Bench.dueEnd("the first of two", Bench.with(three, END), ArchiveBench.STRANGE, 10);
    }
}
