import java.util.List;

/** Terms, METHODS: what the squeezed bytes of files are in the image, and that they come back. */
public final class SqueezeTest {
    private static final int KEPT = 0;
    private static final int RUNS = 1;
    private static final int COPIES = 2;

    public static void main(String[] args) {
        sixty();
        kept();
        cutIntoRuns();
        smallRuns();
        otherRuns();
        copyLengths();
        copyDistances();
        copiesWithinTheRow();
        whichCopy();
        literals();
        literalsTogether();
        bytesOfACopy();
        Bench.end();
    }

    private static void dueSqueezed(int method, List<Integer> bytes, List<Integer> squeezed) {
        ArchiveBench x = new ArchiveBench();
        Bench.writeFile(x, "a", method, Bench.array(bytes));
        x.pack(0);
        Bench.due("open", x.open(), 1);
        String what = "method " + method + " of " + bytes;
        Bench.due(what, x.file(0, 3), squeezed.size());
        Bench.due(what, Bench.imageOf(x).subList(9, 9 + x.file(0, 3)), squeezed);
        Bench.due(what + " taken out", x.take(0), bytes.size());
        Bench.due(what + " taken out", Bench.takenOf(x), bytes);
    }

    private static void sixty() {
        Bench.sentence(Bench.TERMS, "METHODS: how a row of at most 60 bytes is SQUEEZED.");
        for (int method = KEPT; method <= COPIES; method++) {
            dueSqueezed(method, Bench.list(), Bench.list());
        }
        dueSqueezed(KEPT, Bench.counting(60), Bench.counting(60));
        dueSqueezed(RUNS, Bench.counting(60), Bench.counting(60));
        dueSqueezed(COPIES, Bench.times(7, 60), Bench.list(0, 7, 63, 0, 54, 0));
        // Sixty runs of one byte that is not below 246 make the longest row there is.
        List<Integer> bytes = Bench.list();
        List<Integer> squeezed = Bench.list();
        for (int i = 0; i < 30; i++) {
            bytes.addAll(Bench.list(246, 255));
            squeezed.addAll(Bench.list(247, 246, 247, 255));
        }
        dueSqueezed(RUNS, bytes, squeezed);
    }

    private static void kept() {
        Bench.sentence(Bench.TERMS, "KEPT 0: as it is.");
        dueSqueezed(KEPT, Bench.list(0), Bench.list(0));
        dueSqueezed(KEPT, Bench.list(1, 1, 1, 1, 246, 255), Bench.list(1, 1, 1, 1, 246, 255));
        dueSqueezed(KEPT, Bench.times(7, 60), Bench.times(7, 60));
    }

    private static void cutIntoRuns() {
        Bench.sentence(Bench.TERMS, "RUNS 1: the row is cut into runs from its beginning, each of as many equal bytes "
                + "as there are, at most 9;");
        dueSqueezed(RUNS, Bench.times(4, 8), Bench.list(254, 4));
        dueSqueezed(RUNS, Bench.times(4, 9), Bench.list(255, 4));
        dueSqueezed(RUNS, Bench.times(4, 10), Bench.list(255, 4, 4));
        dueSqueezed(RUNS, Bench.times(4, 12), Bench.list(255, 4, 249, 4));
        dueSqueezed(RUNS, Bench.times(4, 18), Bench.list(255, 4, 255, 4));
        dueSqueezed(RUNS, Bench.times(4, 19), Bench.list(255, 4, 255, 4, 4));
        dueSqueezed(RUNS, Bench.times(4, 60), Bench.list(255, 4, 255, 4, 255, 4, 255, 4, 255, 4, 255, 4, 252, 4));
        dueSqueezed(RUNS, Bench.list(1, 1, 1, 2, 2, 2, 2, 1), Bench.list(249, 1, 250, 2, 1));
        dueSqueezed(RUNS, Bench.list(1, 2, 1, 2, 2, 2), Bench.list(1, 2, 1, 249, 2));
    }

    private static void smallRuns() {
        Bench.sentence(Bench.TERMS, "a run of n bytes v becomes: if n is 1 or 2 and v is below 246: n times v;");
        for (int v : new int[] {0, 1, 9, 32, 244, 245}) {
            dueSqueezed(RUNS, Bench.list(v), Bench.list(v));
            dueSqueezed(RUNS, Bench.list(v, v), Bench.list(v, v));
            dueSqueezed(RUNS, Bench.times(v, 11), Bench.list(255, v, v, v));
        }
    }

    private static void otherRuns() {
        Bench.sentence(Bench.TERMS, "else the byte 246 + n, then v.");
        for (int v : new int[] {0, 245}) {
            for (int n = 3; n <= 9; n++) {
                dueSqueezed(RUNS, Bench.times(v, n), Bench.list(246 + n, v));
            }
        }
        for (int v : new int[] {246, 247, 255}) {
            for (int n = 1; n <= 9; n++) {
                dueSqueezed(RUNS, Bench.times(v, n), Bench.list(246 + n, v));
            }
            dueSqueezed(RUNS, Bench.times(v, 10), Bench.list(255, v, 247, v));
            dueSqueezed(RUNS, Bench.times(v, 11), Bench.list(255, v, 248, v));
        }
        dueSqueezed(RUNS, Bench.list(245, 245, 246), Bench.list(245, 245, 247, 246));
        dueSqueezed(RUNS, Bench.list(255, 254, 255), Bench.list(247, 255, 247, 254, 247, 255));
    }

    private static void copyLengths() {
        Bench.sentence(Bench.TERMS, "COPIES 2: a COPY at a place p has a length 3 .. 34");
        dueSqueezed(COPIES, Bench.times(9, 2), Bench.list(1, 9, 9));
        dueSqueezed(COPIES, Bench.times(9, 3), Bench.list(2, 9, 9, 9));
        dueSqueezed(COPIES, Bench.times(9, 4), Bench.list(0, 9, 32, 0));
        dueSqueezed(COPIES, Bench.times(9, 34), Bench.list(0, 9, 62, 0));
        dueSqueezed(COPIES, Bench.times(9, 35), Bench.list(0, 9, 63, 0));
        dueSqueezed(COPIES, Bench.times(9, 36), Bench.list(0, 9, 63, 0, 0, 9));
        dueSqueezed(COPIES, Bench.times(9, 37), Bench.list(0, 9, 63, 0, 1, 9, 9));
        dueSqueezed(COPIES, Bench.times(9, 38), Bench.list(0, 9, 63, 0, 32, 0));
    }

    private static void copyDistances() {
        Bench.sentence(Bench.TERMS, "and a distance 1 .. 32, not above p,");
        dueSqueezed(COPIES, Bench.joined(Bench.counting(31), Bench.list(0, 1, 2)),
                Bench.joined(Bench.list(30), Bench.counting(31), Bench.list(32, 30)));
        dueSqueezed(COPIES, Bench.joined(Bench.counting(32), Bench.list(0, 1, 2)),
                Bench.joined(Bench.list(31), Bench.counting(32), Bench.list(32, 31)));
        dueSqueezed(COPIES, Bench.joined(Bench.counting(33), Bench.list(0, 1, 2)),
                Bench.joined(Bench.list(31), Bench.counting(32), Bench.list(3, 32, 0, 1, 2)));
        // Zeros, lest what stands before the row count as them.
        dueSqueezed(COPIES, Bench.times(0, 3), Bench.list(2, 0, 0, 0));
        dueSqueezed(COPIES, Bench.times(0, 4), Bench.list(0, 0, 32, 0));
        dueSqueezed(COPIES, Bench.list(0, 0, 0, 5, 0, 0, 0), Bench.list(3, 0, 0, 0, 5, 32, 3));
        dueSqueezed(COPIES, Bench.list(1, 2, 1, 2, 1), Bench.list(1, 1, 2, 32, 1));
    }

    private static void copiesWithinTheRow() {
        Bench.sentence(Bench.TERMS, "such that each of the length bytes from p on, within the row, "
                + "is the byte that stands the distance before it.");
        dueSqueezed(COPIES, Bench.list(1, 2, 3, 1, 2), Bench.list(4, 1, 2, 3, 1, 2));
        dueSqueezed(COPIES, Bench.list(1, 2, 3, 1, 2, 3), Bench.list(2, 1, 2, 3, 32, 2));
        dueSqueezed(COPIES, Bench.list(1, 2, 3, 1, 2, 3, 1), Bench.list(2, 1, 2, 3, 33, 2));
        dueSqueezed(COPIES, Bench.list(1, 2, 3, 1, 2, 4), Bench.list(5, 1, 2, 3, 1, 2, 4));
        dueSqueezed(COPIES, Bench.list(0, 0), Bench.list(1, 0, 0));
        dueSqueezed(COPIES, Bench.list(0, 0, 0, 7, 0, 0), Bench.list(5, 0, 0, 0, 7, 0, 0));
        // A longer row that was squeezed before leaves nothing behind the end.
        ArchiveBench x = new ArchiveBench();
        Bench.writeFile(x, "a", COPIES, Bench.array(Bench.times(1, 9)));
        Bench.writeFile(x, "b", COPIES, 1, 1, 1);
        x.pack(0);
        x.open();
        Bench.due("how many of three", x.file(1, 3), 4);
    }

    private static void whichCopy() {
        Bench.sentence(Bench.TERMS, "From place 0 on: if there is a COPY at p, the one with the greatest length, "
                + "of these the least distance, is taken, and p grows by its length;");
        // Both distances 4 and 8 make three bytes.
        dueSqueezed(COPIES, Bench.list(1, 2, 3, 7, 1, 2, 3, 8, 1, 2, 3, 9),
                Bench.list(3, 1, 2, 3, 7, 32, 3, 0, 8, 32, 3, 0, 9));
        // The farther one makes four, the nearer one three.
        dueSqueezed(COPIES, Bench.list(1, 2, 3, 4, 7, 1, 2, 3, 8, 1, 2, 3, 4),
                Bench.list(4, 1, 2, 3, 4, 7, 32, 4, 0, 8, 33, 8));
        // The nearer one makes four, the farther one three.
        dueSqueezed(COPIES, Bench.list(1, 2, 3, 7, 1, 2, 3, 4, 8, 1, 2, 3, 4),
                Bench.list(3, 1, 2, 3, 7, 32, 3, 1, 4, 8, 33, 4));
        // 34 bytes at any distance: the least one.
        dueSqueezed(COPIES, Bench.times(9, 60), Bench.list(0, 9, 63, 0, 54, 0));
        // Three bytes at place 9 are taken, though four would begin at place 10.
        dueSqueezed(COPIES, Bench.list(1, 2, 3, 7, 2, 3, 4, 5, 8, 1, 2, 3, 4, 5),
                Bench.list(8, 1, 2, 3, 7, 2, 3, 4, 5, 8, 32, 8, 1, 4, 5));
        // A copy right behind a copy.
        dueSqueezed(COPIES, Bench.list(1, 2, 3, 4, 5, 6, 4, 5, 6, 1, 2, 3),
                Bench.list(5, 1, 2, 3, 4, 5, 6, 32, 2, 32, 8));
    }

    private static void literals() {
        Bench.sentence(Bench.TERMS, "else the byte at p is a LITERAL, and p grows by 1.");
        dueSqueezed(COPIES, Bench.list(9), Bench.list(0, 9));
        dueSqueezed(COPIES, Bench.list(255, 32), Bench.list(1, 255, 32));
        // The copy begins one behind a literal.
        dueSqueezed(COPIES, Bench.list(1, 2, 3, 7, 7, 1, 2, 3), Bench.list(4, 1, 2, 3, 7, 7, 32, 4));
        dueSqueezed(COPIES, Bench.list(5, 6, 7, 5, 6, 8, 5, 6), Bench.list(7, 5, 6, 7, 5, 6, 8, 5, 6));
    }

    private static void literalsTogether() {
        Bench.sentence(Bench.TERMS, "Literals one behind the other, at most 32 together, become the byte (how many - 1) "
                + "and the bytes; more of them begin anew;");
        List<Integer> first = Bench.joined(Bench.list(31), Bench.counting(32));
        dueSqueezed(COPIES, Bench.counting(31), Bench.joined(Bench.list(30), Bench.counting(31)));
        dueSqueezed(COPIES, Bench.counting(32), first);
        dueSqueezed(COPIES, Bench.counting(33), Bench.joined(first, Bench.list(0, 32)));
        dueSqueezed(COPIES, Bench.counting(60), Bench.joined(first, Bench.list(27), Bench.counting(60).subList(32, 60)));
        // What a copy parts is not one behind the other.
        dueSqueezed(COPIES, Bench.joined(Bench.counting(30), Bench.list(0, 1, 2, 50, 51, 52)),
                Bench.joined(Bench.list(29), Bench.counting(30), Bench.list(32, 29, 2, 50, 51, 52)));
        dueSqueezed(COPIES, Bench.joined(Bench.counting(33), Bench.list(30, 31, 32, 50)),
                Bench.joined(first, Bench.list(0, 32, 32, 2, 0, 50)));
    }

    private static void bytesOfACopy() {
        Bench.sentence(Bench.TERMS, "a copy becomes the byte 32 + length - 3, then distance - 1.");
        for (int length = 3; length <= 34; length++) {
            dueSqueezed(COPIES, Bench.times(9, 1 + length), Bench.list(0, 9, 32 + length - 3, 0));
        }
        for (int distance = 3; distance <= 32; distance++) {
            dueSqueezed(COPIES, Bench.joined(Bench.counting(distance), Bench.list(0, 1, 2)),
                    Bench.joined(Bench.list(distance - 1), Bench.counting(distance), Bench.list(32, distance - 1)));
        }
    }
}
