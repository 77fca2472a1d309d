import java.util.List;

/** Promises 6 to 8: put, cut, image. */
public final class ImageTest {
    public static void main(String[] args) {
        puts();
        cuts();
        closing();
        Bench.end();
    }

    private static void puts() {
        ArchiveBench x = new ArchiveBench();
        for (int i = 0; i < 200; i++) {
            Bench.due("put", x.put(i, i), i + 1);
        }
        Bench.due("put within", x.put(3, 255), 200);
        Bench.due("the byte", x.image(3), 255);
        Bench.due("the byte beside", x.image(4), 4);
        List<Integer> before = Bench.stateOf(x);
        int[][] bad = {{-1, 0}, {201, 0}, {0, -1}, {0, 256}, {200, 256}, {Integer.MAX_VALUE, 0}, {Integer.MIN_VALUE, 0},
            {0, Integer.MAX_VALUE}};
        for (int[] b : bad) {
            Bench.due("put " + b[0] + " " + b[1], x.put(b[0], b[1]), ArchiveBench.REFUSED);
        }
        Bench.due("the state", Bench.stateOf(x), before);
        for (int i : new int[] {-1, 200, Integer.MIN_VALUE, Integer.MAX_VALUE}) {
            Bench.due("image " + i, x.image(i), ArchiveBench.REFUSED);
        }
        fullImage();
    }

    private static void fullImage() {
        ArchiveBench x = new ArchiveBench();
        for (int i = 0; i < 6; i++) {
            Bench.writeName(x, "abcdefgh");
            x.data(i, 60);
            x.add(0);
        }
        int length = x.pack(0);
        for (int i = length; i < 600; i++) {
            Bench.due("put", x.put(i, 9), i + 1);
        }
        Bench.due("open", x.open(), 6);
        List<Integer> before = Bench.stateOf(x);
        Bench.due("a byte too many", x.put(600, 9), ArchiveBench.FULL);
        Bench.due("what is no byte", x.put(600, 256), ArchiveBench.REFUSED);
        Bench.due("behind the end", x.put(601, 9), ArchiveBench.REFUSED);
        Bench.due("image", x.image(599), 9);
        Bench.due("image", x.image(600), ArchiveBench.REFUSED);
        Bench.due("the state", Bench.stateOf(x), before);
        Bench.due("put within", x.put(599, 8), 600);
    }

    private static void cuts() {
        ArchiveBench x = new ArchiveBench();
        Bench.writeImage(x, Bench.list(1, 2, 3, 4, 5));
        for (int n : new int[] {-1, 6, Integer.MIN_VALUE, Integer.MAX_VALUE}) {
            Bench.due("cut " + n, x.cut(n), ArchiveBench.REFUSED);
        }
        Bench.due("cut of nothing", x.cut(5), 5);
        Bench.due("cut", x.cut(3), 3);
        Bench.due("what is left", Bench.imageOf(x), Bench.list(1, 2, 3));
        Bench.due("image", x.image(3), ArchiveBench.REFUSED);
        Bench.due("cut of more", x.cut(4), ArchiveBench.REFUSED);
        Bench.due("put", x.put(3, 9), 4);
        Bench.due("cut", x.cut(0), 0);
        Bench.due("length", x.count(1), 0);
    }

    private static void closing() {
        ArchiveBench x = new ArchiveBench();
        Bench.writeFile(x, "a", 0, 1);
        int length = x.pack(0);
        Bench.due("open", x.open(), 1);
        Bench.due("refused put", x.put(0, 256), ArchiveBench.REFUSED);
        Bench.due("refused cut", x.cut(99), ArchiveBench.REFUSED);
        Bench.due("open files", x.count(2), 1);
        Bench.due("put of the same", x.put(0, 67), length);
        Bench.due("open files", x.count(2), 0);
        x.open();
        Bench.due("put at the end", x.put(length, 0), length + 1);
        Bench.due("open files", x.count(2), 0);
        x.open();
        Bench.due("cut of nothing", x.cut(length + 1), length + 1);
        Bench.due("open files", x.count(2), 0);
        Bench.due("file", x.file(0, 0), ArchiveBench.REFUSED);
    }
}
