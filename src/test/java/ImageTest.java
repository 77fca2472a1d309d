import java.util.List;

/** Promises 6 to 8: put, cut, image. */
public final class ImageTest {
    public static void main(String[] args) {
        putWithin();
        putBehind();
        putIntoAFullImage();
        lengthOfPut();
        putCloses();
        cutTo();
        answerOfCut();
        cutCloses();
        bytes();
        noByte();
        Bench.end();
    }

    private static ArchiveBench withThree() {
        return Bench.with(Bench.list(1, 2, 3));
    }

    private static void putWithin() {
        Bench.sentence(6, "The image's byte at i (0 .. its length - 1) becomes b;");
        ArchiveBench x = withThree();
        Bench.due("put at 0", x.put(0, 255), 3);
        Bench.due("the image", Bench.imageOf(x), Bench.list(255, 2, 3));
        Bench.due("put at the last", x.put(2, 0), 3);
        Bench.due("the image", Bench.imageOf(x), Bench.list(255, 2, 0));
        int[][] bad = {{-1, 0}, {4, 0}, {0, -1}, {0, 256}, {2, 256}, {-1, 256}, {600, 0}, {Integer.MAX_VALUE, 0},
            {Integer.MIN_VALUE, 0}, {0, Integer.MAX_VALUE}, {0, Integer.MIN_VALUE}};
        for (int[] b : bad) {
            Bench.due("put " + b[0] + " " + b[1], x.put(b[0], b[1]), ArchiveBench.REFUSED);
        }
        Bench.due("the image", Bench.imageOf(x), Bench.list(255, 2, 0));
    }

    private static void putBehind() {
        Bench.sentence(6, "or, i being its length, b is appended");
        ArchiveBench x = new ArchiveBench();
        Bench.due("behind an empty image's end", x.put(1, 7), ArchiveBench.REFUSED);
        Bench.due("to an empty image", x.put(0, 7), 1);
        Bench.due("a second byte", x.put(1, 8), 2);
        Bench.due("one behind the end", x.put(3, 9), ArchiveBench.REFUSED);
        Bench.due("what is no byte", x.put(2, 256), ArchiveBench.REFUSED);
        Bench.due("what is no byte", x.put(2, -1), ArchiveBench.REFUSED);
        Bench.due("the image", Bench.imageOf(x), Bench.list(7, 8));
        x.cut(1);
        Bench.due("behind what is left", x.put(2, 9), ArchiveBench.REFUSED);
        Bench.due("to what is left", x.put(1, 9), 2);
        Bench.due("the image", Bench.imageOf(x), Bench.list(7, 9));
    }

    /** Six files are open in an image of 600 bytes. */
    private static ArchiveBench full() {
        ArchiveBench x = new ArchiveBench();
        for (int i = 0; i < 6; i++) {
            Bench.writeName(x, "abcdefgh");
            x.data(i, 60);
            x.add(0);
        }
        Bench.due("pack", x.pack(0), 457);
        for (int i = 457; i < 600; i++) {
            Bench.due("put at " + i, x.put(i, 9), i + 1);
        }
        Bench.due("open", x.open(), 6);
        return x;
    }

    private static void putIntoAFullImage() {
        Bench.sentence(6, "(FULL with 600).");
        ArchiveBench x = full();
        List<Integer> before = Bench.stateOf(x);
        Bench.due("a byte too many", x.put(600, 8), ArchiveBench.FULL);
        Bench.due("what is no byte", x.put(600, 256), ArchiveBench.REFUSED);
        Bench.due("what is no byte", x.put(600, -1), ArchiveBench.REFUSED);
        Bench.due("behind the end", x.put(601, 9), ArchiveBench.REFUSED);
        Bench.due("the last byte", x.image(599), 9);
        Bench.due("none behind", x.image(600), ArchiveBench.REFUSED);
        Bench.due("the state", Bench.stateOf(x), before);
        Bench.due("put within", x.put(599, 8), 600);
        Bench.due("the last byte", x.image(599), 8);
        Bench.due("cut of one", x.cut(599), 599);
        Bench.due("the last byte once more", x.put(599, 7), 600);
        Bench.due("a byte too many", x.put(600, 8), ArchiveBench.FULL);
    }

    private static void lengthOfPut() {
        Bench.sentence(6, "Its length.");
        ArchiveBench x = new ArchiveBench();
        for (int i = 0; i < 300; i++) {
            Bench.due("put behind", x.put(i, 1), i + 1);
        }
        Bench.due("put within", x.put(0, 2), 300);
        Bench.due("put within", x.put(299, 2), 300);
        Bench.due("length", x.count(1), 300);
    }

    private static ArchiveBench opened() {
        ArchiveBench x = new ArchiveBench();
        Bench.writeFile(x, "a", 0, 1);
        Bench.due("pack", x.pack(0), 13);
        Bench.due("open", x.open(), 1);
        return x;
    }

    private static void dueClosed(ArchiveBench x) {
        Bench.due("open files", x.count(2), 0);
        Bench.due("file", x.file(0, 0), ArchiveBench.REFUSED);
        Bench.due("take", x.take(0), ArchiveBench.REFUSED);
    }

    private static void putCloses() {
        Bench.sentence(6, "No file is open then.");
        ArchiveBench x = opened();
        Bench.due("refused put", x.put(0, 256), ArchiveBench.REFUSED);
        Bench.due("refused put", x.put(14, 0), ArchiveBench.REFUSED);
        Bench.due("open files", x.count(2), 1);
        Bench.due("put of the same", x.put(0, 67), 13);
        dueClosed(x);
        x = opened();
        Bench.due("put at the end", x.put(13, 0), 14);
        dueClosed(x);
        Bench.dueOpen("again", x, 1);
    }

    private static void cutTo() {
        Bench.sentence(7, "The image has only its first n bytes (0 .. its length).");
        ArchiveBench x = Bench.with(Bench.list(1, 2, 3, 4, 5));
        for (int n : new int[] {-1, 6, 600, 601, Integer.MIN_VALUE, Integer.MAX_VALUE}) {
            Bench.due("cut " + n, x.cut(n), ArchiveBench.REFUSED);
        }
        Bench.due("the image", Bench.imageOf(x), Bench.list(1, 2, 3, 4, 5));
        Bench.due("cut of nothing", x.cut(5), 5);
        Bench.due("the image", Bench.imageOf(x), Bench.list(1, 2, 3, 4, 5));
        Bench.due("cut", x.cut(3), 3);
        Bench.due("the image", Bench.imageOf(x), Bench.list(1, 2, 3));
        Bench.due("behind the end", x.image(3), ArchiveBench.REFUSED);
        Bench.due("cut of more than is left", x.cut(4), ArchiveBench.REFUSED);
        Bench.due("cut of all", x.cut(0), 0);
        Bench.due("length", x.count(1), 0);
        Bench.due("nothing is left", x.image(0), ArchiveBench.REFUSED);
        Bench.due("cut of one from nothing", x.cut(1), ArchiveBench.REFUSED);
        Bench.due("cut of nothing from nothing", x.cut(0), 0);
    }

    private static void answerOfCut() {
        Bench.sentence(7, "(0 .. its length). n.");
        ArchiveBench x = Bench.with(Bench.times(7, 120));
        for (int n = 120; n >= 0; n--) {
            Bench.due("cut", x.cut(n), n);
            Bench.due("length", x.count(1), n);
        }
    }

    private static void cutCloses() {
        Bench.sentence(7, "No file is open then.");
        ArchiveBench x = opened();
        Bench.due("refused cut", x.cut(14), ArchiveBench.REFUSED);
        Bench.due("refused cut", x.cut(-1), ArchiveBench.REFUSED);
        Bench.due("open files", x.count(2), 1);
        Bench.due("cut of nothing", x.cut(13), 13);
        dueClosed(x);
        x = opened();
        Bench.due("cut of the end", x.cut(12), 12);
        dueClosed(x);
        x = opened();
        Bench.due("cut of all", x.cut(0), 0);
        dueClosed(x);
    }

    private static void bytes() {
        Bench.sentence(8, "The image's byte at i;");
        ArchiveBench x = new ArchiveBench();
        for (int i = 0; i < 200; i++) {
            x.put(i, 255 - i);
        }
        for (int i = 0; i < 200; i++) {
            Bench.due("image " + i, x.image(i), 255 - i);
        }
        Bench.due("a byte of 0", Bench.with(Bench.list(0)).image(0), 0);
    }

    private static void noByte() {
        Bench.sentence(8, "REFUSED if there is none.");
        Bench.due("of an empty image", new ArchiveBench().image(0), ArchiveBench.REFUSED);
        ArchiveBench x = withThree();
        for (int i : new int[] {-1, 3, 4, 599, 600, Integer.MIN_VALUE, Integer.MAX_VALUE}) {
            Bench.due("image " + i, x.image(i), ArchiveBench.REFUSED);
        }
        Bench.due("the last", x.image(2), 3);
        x = full();
        Bench.due("the last of 600", x.image(599), 9);
        Bench.due("behind 600", x.image(600), ArchiveBench.REFUSED);
    }
}
