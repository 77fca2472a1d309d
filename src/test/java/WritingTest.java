import java.util.List;

/** Promises 2 to 4: name, data, add. */
public final class WritingTest {
    public static void main(String[] args) {
        names();
        bytes();
        files();
        Bench.end();
    }

    private static void names() {
        ArchiveBench x = new ArchiveBench();
        for (int character : new int[] {-1, 0, 45, 48, 64, 65, 90, 96, 123, 256 + 97, Integer.MIN_VALUE, Integer.MAX_VALUE}) {
            Bench.due("name " + character, x.name(character), ArchiveBench.REFUSED);
        }
        Bench.due("characters written", x.count(3), 0);
        int[] good = {97, 122, 46, 47, 109, 98, 121, 97};
        for (int i = 0; i < good.length; i++) {
            Bench.due("name " + good[i], x.name(good[i]), i + 1);
            Bench.due("characters written", x.count(3), i + 1);
        }
        Bench.due("a ninth character", x.name(97), ArchiveBench.FULL);
        Bench.due("a ninth one that is no character of names", x.name(64), ArchiveBench.REFUSED);
        Bench.due("characters written", x.count(3), 8);
        Bench.due("add", x.add(0), 0);
        x.pack(0);
        x.open();
        for (int i = 0; i < good.length; i++) {
            Bench.due("character " + i, x.file(0, 16 + i), good[i]);
        }
    }

    private static void bytes() {
        ArchiveBench x = new ArchiveBench();
        int[][] bad = {{-1, 1}, {256, 1}, {0, 0}, {0, 61}, {0, -1}, {Integer.MIN_VALUE, 1}, {0, Integer.MAX_VALUE},
            {0, Integer.MIN_VALUE}};
        for (int[] b : bad) {
            Bench.due("data " + b[0] + " " + b[1], x.data(b[0], b[1]), ArchiveBench.REFUSED);
        }
        Bench.due("bytes written", x.count(4), 0);
        Bench.due("data", x.data(0, 1), 1);
        Bench.due("data", x.data(255, 58), 59);
        Bench.due("two more", x.data(9, 2), ArchiveBench.FULL);
        Bench.due("bytes written", x.count(4), 59);
        Bench.due("one more", x.data(7, 1), 60);
        Bench.due("one too many", x.data(9, 1), ArchiveBench.FULL);
        Bench.due("sixty too many", x.data(9, 60), ArchiveBench.FULL);
        Bench.due("too many of what is no byte", x.data(256, 1), ArchiveBench.REFUSED);
        Bench.writeName(x, "a");
        Bench.due("add", x.add(0), 0);
        Bench.due("bytes written", x.count(4), 0);
        Bench.due("sixty at once", x.data(3, 60), 60);
        x.pack(0);
        x.open();
        Bench.due("take", x.take(0), 60);
        Bench.due("the bytes", Bench.takenOf(x), Bench.joined(Bench.list(0), Bench.times(255, 58), Bench.list(7)));
        Bench.due("bytes written", x.count(4), 60);
    }

    private static void files() {
        ArchiveBench x = new ArchiveBench();
        x.data(5, 2);
        Bench.due("add without a name", x.add(0), ArchiveBench.REFUSED);
        Bench.due("bytes written", x.count(4), 2);
        Bench.writeName(x, "a");
        for (int method : new int[] {-1, 3, 256, Integer.MIN_VALUE, Integer.MAX_VALUE}) {
            Bench.due("add " + method, x.add(method), ArchiveBench.REFUSED);
        }
        Bench.due("files", x.count(0), 0);
        Bench.due("characters written", x.count(3), 1);
        for (int i = 0; i < 6; i++) {
            Bench.due("add", x.add(i % 3), i);
            Bench.due("files", x.count(0), i + 1);
            Bench.due("characters written", x.count(3), 0);
            Bench.due("bytes written", x.count(4), 0);
            Bench.due("no name", x.add(0), ArchiveBench.REFUSED);
            Bench.writeName(x, "a");
        }
        x.data(1, 3);
        List<Integer> before = Bench.stateOf(x);
        Bench.due("a seventh file", x.add(0), ArchiveBench.FULL);
        Bench.due("a seventh file by no method", x.add(3), ArchiveBench.REFUSED);
        Bench.due("the state", Bench.stateOf(x), before);
        x.pack(0);
        Bench.due("files", x.count(0), 0);
        Bench.due("characters written", x.count(3), 1);
        Bench.due("add after pack", x.add(0), 0);
    }
}
