import java.util.List;

/** Promises 11 and 12: take, taken. */
public final class TakeTest {
    public static void main(String[] args) {
        names();
        order();
        spoiledKept();
        spoiledRuns();
        spoiledCopies();
        strangeButSound();
        takenBytes();
        Bench.end();
    }

    private static void names() {
        for (String safe : new String[] {"a", ".", "...", "a/b", "a/.", "./a", "a.", "..a", "a..", ".a", "a/.b", "b./a", "a/...", "a/..b/c", "a/b/c/d"}) {
            dueName(safe, 1);
        }
        for (String unsafe : new String[] {"/", "/a", "a/", "a//b", "..", "../a", "a/..", "a/../b", "//", "/..", "../"}) {
            dueName(unsafe, ArchiveBench.UNSAFE);
        }
    }

    private static void dueName(String name, int answer) {
        ArchiveBench x = new ArchiveBench();
        Bench.writeFile(x, name, 0, 5);
        x.pack(1);
        Bench.due("open", x.open(), 1);
        Bench.due("take " + name, x.take(0), answer);
        Bench.due("bytes taken out", x.count(5), Math.max(answer, 0));
    }

    private static ArchiveBench opened(int files, List<?>... records) {
        ArchiveBench x = new ArchiveBench();
        Bench.writeImage(x, Bench.joined(Bench.joined(records), Bench.list(69)));
        Bench.due("open", x.open(), files);
        return x;
    }

    private static void order() {
        int right = Bench.check(Bench.list(7));
        List<Integer> sound = Bench.record(0, "a", 1, right, 7);
        List<Integer> wrong = Bench.record(0, "a", 1, right ^ 1, 7);
        List<Integer> spoiled = Bench.record(0, "a", 2, right ^ 1, 7);
        List<Integer> unsafe = Bench.record(0, "..", 2, right ^ 1, 7);
        ArchiveBench x = opened(6, unsafe, wrong, unsafe, spoiled, sound, Bench.record(0, "ab", 1, right, 7));
        Bench.due("UNSAFE before SPOILED", x.take(0), ArchiveBench.UNSAFE);
        Bench.due("WRONG", x.take(1), ArchiveBench.WRONG);
        Bench.due("UNSAFE before TWICE", x.take(2), ArchiveBench.UNSAFE);
        Bench.due("TWICE before SPOILED", x.take(3), ArchiveBench.TWICE);
        Bench.due("TWICE of a sound file", x.take(4), ArchiveBench.TWICE);
        Bench.due("a name that only begins so", x.take(5), 1);
        for (int file : new int[] {-1, 6, 7, Integer.MIN_VALUE, Integer.MAX_VALUE}) {
            Bench.due("take " + file, x.take(file), ArchiveBench.REFUSED);
        }
        x = opened(1, spoiled);
        Bench.due("SPOILED before WRONG", x.take(0), ArchiveBench.SPOILED);
        x = opened(2, sound, Bench.record(0, "b", 1, right, 7));
        Bench.due("a file before one of its name", x.take(0), 1);
        Bench.due("take again", x.take(0), 1);
        Bench.due("another name of the same length", x.take(1), 1);
        x = opened(2, sound, sound);
        Bench.due("the first of two", x.take(0), 1);
        Bench.due("the second of two", x.take(1), ArchiveBench.TWICE);
    }

    private static void dueTake(int method, int answer, int length, int... squeezed) {
        String what = "method " + method + " " + Bench.list(squeezed) + " to " + length;
        ArchiveBench x = opened(1, Bench.record(method, "a", length, 0, squeezed));
        Bench.due(what, x.take(0), answer);
        Bench.due(what + ": bytes taken out", x.count(5), 0);
    }

    private static void spoiledKept() {
        dueTake(0, ArchiveBench.SPOILED, 1);
        dueTake(0, ArchiveBench.SPOILED, 0, 1);
        dueTake(0, ArchiveBench.SPOILED, 2, 1, 2, 3);
        dueTake(0, ArchiveBench.SPOILED, 4, 1, 2, 3);
        dueTake(0, ArchiveBench.WRONG, 3, 1, 2, 3);
        dueTake(0, ArchiveBench.SPOILED, 60, new int[61]);
        dueTake(0, ArchiveBench.SPOILED, 60, new int[255]);
        dueTake(0, ArchiveBench.WRONG, 60, new int[60]);
    }

    private static void spoiledRuns() {
        dueTake(1, ArchiveBench.SPOILED, 1);
        dueTake(1, ArchiveBench.SPOILED, 0, 1);
        dueTake(1, ArchiveBench.SPOILED, 1, 246);
        dueTake(1, ArchiveBench.SPOILED, 1, 246, 1);
        dueTake(1, ArchiveBench.SPOILED, 0, 246, 1);
        dueTake(1, ArchiveBench.SPOILED, 1, 247);
        dueTake(1, ArchiveBench.SPOILED, 9, 255);
        dueTake(1, ArchiveBench.SPOILED, 10, 255, 1);
        dueTake(1, ArchiveBench.SPOILED, 8, 255, 1);
        dueTake(1, ArchiveBench.WRONG, 9, 255, 1);
        dueTake(1, ArchiveBench.SPOILED, 60, 255, 1, 255, 1, 255, 1, 255, 1, 255, 1, 255, 1, 255, 1);
        dueTake(1, ArchiveBench.SPOILED, 60, new int[61]);
        dueTake(1, ArchiveBench.SPOILED, 60, new int[255]);
    }

    private static void spoiledCopies() {
        dueTake(2, ArchiveBench.SPOILED, 1);
        dueTake(2, ArchiveBench.SPOILED, 0, 0, 1);
        dueTake(2, ArchiveBench.SPOILED, 1, 0);
        dueTake(2, ArchiveBench.SPOILED, 2, 1, 1);
        dueTake(2, ArchiveBench.SPOILED, 32, 31, 1);
        dueTake(2, ArchiveBench.SPOILED, 1, 64, 1);
        dueTake(2, ArchiveBench.SPOILED, 1, 255, 1);
        dueTake(2, ArchiveBench.SPOILED, 4, 0, 1, 64, 0);
        dueTake(2, ArchiveBench.SPOILED, 36, 0, 1, 64, 0);
        dueTake(2, ArchiveBench.SPOILED, 37, 0, 1, 65, 0);
        dueTake(2, ArchiveBench.SPOILED, 3, 32, 0);
        dueTake(2, ArchiveBench.SPOILED, 4, 0, 1, 32);
        dueTake(2, ArchiveBench.SPOILED, 4, 0, 1, 32, 1);
        dueTake(2, ArchiveBench.SPOILED, 4, 0, 1, 32, 32);
        dueTake(2, ArchiveBench.SPOILED, 4, 0, 1, 32, 255);
        dueTake(2, ArchiveBench.SPOILED, 3, 0, 1, 32, 0);
        dueTake(2, ArchiveBench.SPOILED, 5, 0, 1, 32, 0);
        dueTake(2, ArchiveBench.WRONG, 4, 0, 1, 32, 0);
        dueTake(2, ArchiveBench.SPOILED, 60, 0, 1, 63, 0, 63, 0);
        dueTake(2, ArchiveBench.WRONG, 60, 0, 1, 63, 0, 54, 0);
        // 34 bytes are made, a distance of 33 would do, but it is not one of a copy.
        dueTake(2, ArchiveBench.SPOILED, 38, 0, 1, 63, 0, 32, 32);
        dueTake(2, ArchiveBench.WRONG, 38, 0, 1, 63, 0, 32, 31);
    }

    private static void dueMade(int method, List<Integer> bytes, int... squeezed) {
        ArchiveBench x = opened(1, Bench.record(method, "a", bytes.size(), Bench.check(bytes), squeezed));
        Bench.due("method " + method + " " + Bench.list(squeezed), x.take(0), bytes.size());
        Bench.due("method " + method + " " + Bench.list(squeezed), Bench.takenOf(x), bytes);
    }

    /** Squeezed bytes need not be what squeezing makes. */
    private static void strangeButSound() {
        dueMade(1, Bench.list(1, 1, 1, 1), 1, 1, 1, 1);
        dueMade(1, Bench.list(1, 2, 2), 247, 1, 248, 2);
        dueMade(1, Bench.list(245, 246), 245, 247, 246);
        dueMade(2, Bench.list(9, 9, 9, 9), 0, 9, 0, 9, 1, 9, 9);
        dueMade(2, Bench.list(1, 2, 1, 2, 1, 3), 1, 1, 2, 32, 1, 0, 3);
        dueMade(2, Bench.list(1, 2, 3, 4, 1, 2, 3), 3, 1, 2, 3, 4, 32, 3);
        dueMade(0, Bench.list());
        dueMade(1, Bench.list());
        dueMade(2, Bench.list());
    }

    private static void takenBytes() {
        ArchiveBench x = new ArchiveBench();
        Bench.writeFile(x, "a", 0, 7, 8, 9);
        Bench.writeFile(x, "b", 1, 255);
        Bench.writeFile(x, "/", 1, 6);
        Bench.writeFile(x, "e", 2);
        x.pack(0);
        Bench.due("open", x.open(), 4);
        Bench.due("nothing taken out", x.taken(0), ArchiveBench.REFUSED);
        Bench.due("take", x.take(0), 3);
        Bench.due("taken", Bench.takenOf(x), Bench.list(7, 8, 9));
        for (int i : new int[] {-1, 3, 60, Integer.MIN_VALUE, Integer.MAX_VALUE}) {
            Bench.due("taken " + i, x.taken(i), ArchiveBench.REFUSED);
        }
        Bench.due("UNSAFE", x.take(2), ArchiveBench.UNSAFE);
        Bench.due("no such file", x.take(4), ArchiveBench.REFUSED);
        Bench.due("taken stays", Bench.takenOf(x), Bench.list(7, 8, 9));
        Bench.due("take", x.take(1), 1);
        Bench.due("taken", Bench.takenOf(x), Bench.list(255));
        x.put(9, 99);
        x.open();
        Bench.due("WRONG", x.take(0), ArchiveBench.WRONG);
        Bench.due("taken stays", Bench.takenOf(x), Bench.list(255));
        x.put(x.file(1, 2), 246);
        x.open();
        Bench.due("SPOILED", x.take(1), ArchiveBench.SPOILED);
        Bench.due("taken stays", Bench.takenOf(x), Bench.list(255));
        x.cut(0);
        x.open();
        Bench.due("taken stays", Bench.takenOf(x), Bench.list(255));
        Bench.writeFile(x, "e", 2);
        x.pack(0);
        x.open();
        Bench.due("an empty file", x.take(0), 0);
        Bench.due("nothing is taken", x.count(5), 0);
        Bench.due("nothing is taken", x.taken(0), ArchiveBench.REFUSED);
    }
}
