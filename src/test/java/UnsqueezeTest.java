import java.util.List;

/** Terms, to UNSQUEEZE: what squeezed bytes in an image stand for, and which ones are SPOILED. */
public final class UnsqueezeTest {
    private static final int KEPT = 0;
    private static final int RUNS = 1;
    private static final int COPIES = 2;

    public static void main(String[] args) {
        kept();
        singleBytes();
        runs();
        literals();
        copies();
        byte246();
        bytes64AndAbove();
        bytesMissing();
        distances();
        bytesBehindACopy();
        notTheLength();
        otherwiseSqueezed();
        Bench.end();
    }

    private static ArchiveBench opened(int method, int length, int check, int... squeezed) {
        ArchiveBench x = Bench.with(Bench.record(method, "a", length, check, squeezed), Bench.list(69));
        Bench.due("open", x.open(), 1);
        return x;
    }

    private static void dueMade(int method, List<Integer> bytes, int... squeezed) {
        ArchiveBench x = opened(method, bytes.size(), Bench.check(bytes), squeezed);
        String what = "method " + method + " " + Bench.list(squeezed);
        Bench.due(what, x.take(0), bytes.size());
        Bench.due(what, Bench.takenOf(x), bytes);
        Bench.due(what + " with another CHECK", opened(method, bytes.size(), Bench.check(bytes) ^ 1, squeezed).take(0),
                ArchiveBench.WRONG);
    }

    private static void dueSpoiled(int method, int length, int... squeezed) {
        String what = "method " + method + " " + Bench.list(squeezed) + " to " + length;
        ArchiveBench x = opened(method, length, 0, squeezed);
        Bench.due(what, x.take(0), ArchiveBench.SPOILED);
        Bench.due(what + ": bytes taken out", x.count(5), 0);
    }

    private static void kept() {
        Bench.sentence(Bench.TERMS, "To UNSQUEEZE by a method to a length: KEPT: the bytes.");
        dueMade(KEPT, Bench.list());
        dueMade(KEPT, Bench.list(246), 246);
        dueMade(KEPT, Bench.list(64, 255, 0), 64, 255, 0);
        dueMade(KEPT, Bench.counting(60), Bench.array(Bench.counting(60)));
    }

    private static void singleBytes() {
        Bench.sentence(Bench.TERMS, "RUNS: from left to right, a byte below 246 stands for itself;");
        dueMade(RUNS, Bench.list());
        dueMade(RUNS, Bench.list(245), 245);
        for (int from = 0; from < 246; from += 41) {
            int[] row = new int[41];
            for (int i = 0; i < 41; i++) {
                row[i] = from + i;
            }
            dueMade(RUNS, Bench.list(row), row);
        }
        dueMade(RUNS, Bench.counting(60), Bench.array(Bench.counting(60)));
    }

    private static void runs() {
        Bench.sentence(Bench.TERMS, "246 + n with n 1 .. 9 and a byte v behind stands for n times v.");
        for (int n = 1; n <= 9; n++) {
            for (int v : new int[] {0, 245, 246, 247, 255}) {
                dueMade(RUNS, Bench.times(v, n), 246 + n, v);
            }
        }
        dueMade(RUNS, Bench.list(1, 2, 2, 3), 1, 248, 2, 3);
        dueMade(RUNS, Bench.times(5, 60), 255, 5, 255, 5, 255, 5, 255, 5, 255, 5, 255, 5, 252, 5);
    }

    private static void literals() {
        Bench.sentence(Bench.TERMS, "COPIES: a byte below 32 and as many bytes as it says + 1 stand for these;");
        dueMade(COPIES, Bench.list());
        for (int n = 1; n <= 32; n++) {
            dueMade(COPIES, Bench.counting(n), Bench.array(Bench.joined(Bench.list(n - 1), Bench.counting(n))));
        }
        dueMade(COPIES, Bench.list(64, 255, 32), 2, 64, 255, 32);
        dueMade(COPIES, Bench.counting(60), Bench.array(Bench.joined(Bench.list(31), Bench.counting(32), Bench.list(27),
                Bench.counting(60).subList(32, 60))));
    }

    private static void copies() {
        Bench.sentence(Bench.TERMS, "a byte 32 .. 63 and a byte below 32 behind stand for a copy of what was made so far.");
        for (int b = 32; b <= 63; b++) {
            dueMade(COPIES, Bench.times(9, 1 + b - 32 + 3), 0, 9, b, 0);
        }
        for (int b = 0; b <= 31; b++) {
            List<Integer> bytes = Bench.counting(32);
            for (int i = 0; i < 3; i++) {
                bytes.add(bytes.get(bytes.size() - (b + 1)));
            }
            dueMade(COPIES, bytes, Bench.array(Bench.joined(Bench.list(31), Bench.counting(32), Bench.list(32, b))));
        }
        // A copy of what it makes itself, and one of what another made.
        dueMade(COPIES, Bench.list(1, 2, 1, 2, 1, 3), 1, 1, 2, 32, 1, 0, 3);
        dueMade(COPIES, Bench.list(1, 2, 1, 2, 1, 2, 1, 2), 1, 1, 2, 32, 1, 32, 3);
        dueMade(COPIES, Bench.times(1, 60), 0, 1, 63, 0, 54, 0);
    }

    private static void byte246() {
        Bench.sentence(Bench.TERMS, "The row is SPOILED if it is not made of these (246 too,");
        dueSpoiled(RUNS, 0, 246);
        dueSpoiled(RUNS, 1, 246);
        dueSpoiled(RUNS, 0, 246, 1);
        dueSpoiled(RUNS, 1, 246, 1);
        dueSpoiled(RUNS, 2, 246, 1);
        // The length is made already where it comes.
        dueSpoiled(RUNS, 1, 5, 246, 5);
        dueSpoiled(RUNS, 1, 5, 246);
        dueSpoiled(RUNS, 3, 249, 5, 246, 5);
    }

    private static void bytes64AndAbove() {
        Bench.sentence(Bench.TERMS, "64 and above,");
        for (int b : new int[] {64, 65, 96, 128, 255}) {
            dueSpoiled(COPIES, 1, b, 1);
            dueSpoiled(COPIES, 0, b, 0);
            dueSpoiled(COPIES, 4, 0, 1, b, 0);
            dueSpoiled(COPIES, 36, 0, 1, b, 0);
            dueSpoiled(COPIES, Math.min(60, 1 + b - 32 + 3), 0, 1, b, 0);
            dueSpoiled(COPIES, 1, 0, 1, b);
        }
        dueSpoiled(COPIES, 1, 0, 1, 64);
    }

    private static void bytesMissing() {
        Bench.sentence(Bench.TERMS, "bytes missing,");
        for (int n = 1; n <= 9; n++) {
            dueSpoiled(RUNS, n, 246 + n);
            dueSpoiled(RUNS, 1, 5, 246 + n);
        }
        dueSpoiled(COPIES, 0, 0);
        dueSpoiled(COPIES, 1, 0);
        dueSpoiled(COPIES, 1, 1, 1);
        dueSpoiled(COPIES, 2, 1, 1);
        dueSpoiled(COPIES, 31, Bench.array(Bench.joined(Bench.list(31), Bench.counting(31))));
        dueSpoiled(COPIES, 32, Bench.array(Bench.joined(Bench.list(31), Bench.counting(31))));
        dueSpoiled(COPIES, 1, 0, 1, 32);
        dueSpoiled(COPIES, 4, 0, 1, 32);
        dueSpoiled(COPIES, 1, 0, 1, 0);
        // What stands behind in the image belongs to another file.
        List<Integer> directory = Bench.joined(Bench.entry(RUNS, "a", 1, 1, 1, Bench.check(Bench.list(5))),
                Bench.entry(KEPT, "b", 2, 1, 1, Bench.check(Bench.list(5))),
                Bench.entry(COPIES, "c", 3, 1, 1, Bench.check(Bench.list(6))),
                Bench.entry(COPIES, "d", 5, 3, 4, Bench.check(Bench.times(7, 4))),
                Bench.entry(KEPT, "e", 1, 0, 1, Bench.check(Bench.list(247))));
        ArchiveBench x = Bench.with(Bench.index(Bench.list(247, 5, 0, 6, 0, 7, 32, 0), directory, 5));
        Bench.due("open", x.open(), 5);
        int[] due = {ArchiveBench.SPOILED, 1, ArchiveBench.SPOILED, ArchiveBench.SPOILED, ArchiveBench.SPOILED};
        for (int file = 0; file < due.length; file++) {
            Bench.due("take " + file, x.take(file), due[file]);
        }
        List<Integer> data = Bench.joined(Bench.list(31), Bench.counting(60));
        for (int many = 1; many <= 33; many++) {
            directory = Bench.entry(COPIES, "a", 1, many, 32, Bench.check(Bench.counting(32)));
            x = Bench.with(Bench.index(data, directory, 1));
            Bench.due("open", x.open(), 1);
            Bench.due(many + " of 33", x.take(0), many == 33 ? 32 : ArchiveBench.SPOILED);
        }
    }

    private static void distances() {
        Bench.sentence(Bench.TERMS, "a distance above what was made,");
        dueSpoiled(COPIES, 3, 32, 0);
        dueSpoiled(COPIES, 4, 0, 1, 32, 1);
        dueSpoiled(COPIES, 4, 0, 1, 32, 31);
        dueSpoiled(COPIES, 5, 1, 1, 2, 32, 2);
        dueSpoiled(COPIES, 34, Bench.array(Bench.joined(Bench.list(30), Bench.counting(31), Bench.list(32, 31))));
        // Just as far as what was made.
        dueMade(COPIES, Bench.list(1, 1, 1, 1), 0, 1, 32, 0);
        dueMade(COPIES, Bench.list(1, 2, 1, 2, 1), 1, 1, 2, 32, 1);
        // What another file made does not count.
        ArchiveBench x = Bench.with(Bench.record(KEPT, "a", 1, Bench.check(Bench.list(7)), 7),
                Bench.record(COPIES, "b", 3, Bench.check(Bench.list(7, 7, 7)), 32, 0), Bench.list(69));
        x.open();
        Bench.due("take", x.take(0), 1);
        Bench.due("take", x.take(1), ArchiveBench.SPOILED);
    }

    private static void bytesBehindACopy() {
        Bench.sentence(Bench.TERMS, "32 and above behind a copy's byte),");
        // 35 bytes are made, so that distances of 33 and more would do.
        for (int b : new int[] {32, 33, 34, 64, 128, 255}) {
            dueSpoiled(COPIES, 38, 0, 1, 63, 0, 32, b);
        }
        dueMade(COPIES, Bench.times(1, 38), 0, 1, 63, 0, 32, 31);
    }

    private static void notTheLength() {
        Bench.sentence(Bench.TERMS, "or does not make just the length.");
        for (int method = KEPT; method <= COPIES; method++) {
            dueSpoiled(method, 1);
            dueSpoiled(method, 60);
        }
        for (int method = KEPT; method <= RUNS; method++) {
            dueSpoiled(method, 0, 1);
            dueSpoiled(method, 2, 1, 2, 3);
            dueSpoiled(method, 4, 1, 2, 3);
            dueSpoiled(method, 59, new int[60]);
            dueSpoiled(method, 60, new int[59]);
            dueSpoiled(method, 60, new int[61]);
            dueSpoiled(method, 60, new int[255]);
        }
        dueSpoiled(RUNS, 8, 255, 1);
        dueSpoiled(RUNS, 10, 255, 1);
        dueSpoiled(RUNS, 60, 255, 1, 255, 1, 255, 1, 255, 1, 255, 1, 255, 1, 253, 1);
        dueSpoiled(RUNS, 60, 255, 1, 255, 1, 255, 1, 255, 1, 255, 1, 255, 1, 251, 1);
        dueSpoiled(COPIES, 0, 0, 1);
        dueSpoiled(COPIES, 2, 0, 1);
        dueSpoiled(COPIES, 2, 2, 1, 2, 3);
        dueSpoiled(COPIES, 3, 0, 1, 32, 0);
        dueSpoiled(COPIES, 5, 0, 1, 32, 0);
        dueSpoiled(COPIES, 60, 0, 1, 63, 0, 53, 0);
        dueSpoiled(COPIES, 60, 0, 1, 63, 0, 55, 0);
        dueSpoiled(COPIES, 60, 0, 1, 63, 0, 63, 0);
        dueSpoiled(COPIES, 60, Bench.array(Bench.joined(Bench.list(31), Bench.counting(32), Bench.list(31),
                Bench.counting(32))));
    }

    private static void otherwiseSqueezed() {
        Bench.sentence(Bench.TERMS, "(It need not be what squeezing makes.)");
        dueMade(RUNS, Bench.list(1, 1, 1, 1), 1, 1, 1, 1);
        dueMade(RUNS, Bench.list(1, 2, 2), 247, 1, 248, 2);
        dueMade(RUNS, Bench.list(7, 7, 7, 7), 249, 7, 7);
        dueMade(COPIES, Bench.list(9, 9, 9, 9), 0, 9, 0, 9, 1, 9, 9);
        dueMade(COPIES, Bench.list(1, 2, 3, 7, 1, 2, 3, 8, 1, 2, 3), 3, 1, 2, 3, 7, 32, 3, 0, 8, 32, 7);
    }
}
