import java.util.ArrayList;
import java.util.List;

/** METHODS and CHECK: what the squeezed bytes of files are in the image, and that they come back. */
public final class SqueezeTest {
    public static void main(String[] args) {
        check();
        kept();
        runs();
        copies();
        Bench.end();
    }

    private static void check() {
        // The value that every list of such checks gives for these nine bytes.
        Bench.due("CHECK of 1 to 9", checkOf(Bench.characters("123456789")), 0x29B1);
        Bench.due("CHECK of nothing", checkOf(Bench.list()), 65535);
        Bench.due("CHECK of 0", checkOf(Bench.list(0)), 0xE1F0);
        Bench.due("CHECK of the tests", Bench.check(Bench.characters("123456789")), 0x29B1);
    }

    private static int checkOf(List<Integer> bytes) {
        return opened(0, bytes).file(0, 5);
    }

    private static void kept() {
        dueSqueezed(0, Bench.list(), Bench.list());
        dueSqueezed(0, Bench.list(1, 1, 1, 1, 255), Bench.list(1, 1, 1, 1, 255));
        dueSqueezed(0, Bench.times(7, 60), Bench.times(7, 60));
    }

    private static void runs() {
        dueSqueezed(1, Bench.list(), Bench.list());
        dueSqueezed(1, Bench.list(1), Bench.list(1));
        dueSqueezed(1, Bench.list(1, 1), Bench.list(1, 1));
        dueSqueezed(1, Bench.list(1, 1, 1), Bench.list(249, 1));
        dueSqueezed(1, Bench.times(0, 9), Bench.list(255, 0));
        dueSqueezed(1, Bench.times(0, 10), Bench.list(255, 0, 0));
        dueSqueezed(1, Bench.times(0, 11), Bench.list(255, 0, 0, 0));
        dueSqueezed(1, Bench.times(0, 12), Bench.list(255, 0, 249, 0));
        dueSqueezed(1, Bench.list(245, 245, 246), Bench.list(245, 245, 247, 246));
        dueSqueezed(1, Bench.list(255, 255), Bench.list(248, 255));
        dueSqueezed(1, Bench.list(255, 254, 255), Bench.list(247, 255, 247, 254, 247, 255));
        dueSqueezed(1, Bench.times(9, 60), Bench.list(255, 9, 255, 9, 255, 9, 255, 9, 255, 9, 255, 9, 252, 9));
    }

    private static void copies() {
        dueSqueezed(2, Bench.list(), Bench.list());
        dueSqueezed(2, Bench.list(9), Bench.list(0, 9));
        dueSqueezed(2, Bench.list(9, 9, 9), Bench.list(2, 9, 9, 9));
        dueSqueezed(2, Bench.list(9, 9, 9, 9), Bench.list(0, 9, 32, 0));
        dueSqueezed(2, Bench.times(9, 35), Bench.list(0, 9, 63, 0));
        dueSqueezed(2, Bench.times(9, 36), Bench.list(0, 9, 63, 0, 0, 9));
        dueSqueezed(2, Bench.times(9, 60), Bench.list(0, 9, 63, 0, 54, 0));
        dueSqueezed(2, Bench.list(1, 2, 3, 1, 2, 3, 1), Bench.list(2, 1, 2, 3, 33, 2));
        // Of two copies of one length the nearer one; a longer one farther away before both.
        dueSqueezed(2, Bench.list(1, 2, 3, 7, 1, 2, 3, 8, 1, 2, 3, 9),
                Bench.list(3, 1, 2, 3, 7, 32, 3, 0, 8, 32, 3, 0, 9));
        dueSqueezed(2, Bench.list(1, 2, 3, 4, 7, 1, 2, 3, 8, 1, 2, 3, 4),
                Bench.list(4, 1, 2, 3, 4, 7, 32, 4, 0, 8, 33, 8));
        dueSqueezed(2, counting(32), Bench.joined(Bench.list(31), counting(32)));
        dueSqueezed(2, counting(33), Bench.joined(Bench.list(31), counting(32), Bench.list(0, 32)));
        dueSqueezed(2, counting(60), Bench.joined(Bench.list(31), counting(32), Bench.list(27), counting(60).subList(32, 60)));
        dueSqueezed(2, Bench.joined(counting(32), Bench.list(0, 1, 2)),
                Bench.joined(Bench.list(31), counting(32), Bench.list(32, 31)));
        dueSqueezed(2, Bench.joined(counting(33), Bench.list(0, 1, 2)),
                Bench.joined(Bench.list(31), counting(32), Bench.list(3, 32, 0, 1, 2)));
    }

    private static List<Integer> counting(int n) {
        List<Integer> made = new ArrayList<>();
        for (int i = 0; i < n; i++) {
            made.add(i);
        }
        return made;
    }

    private static ArchiveBench opened(int method, List<Integer> bytes) {
        ArchiveBench x = new ArchiveBench();
        Bench.writeBytes(x, bytes);
        Bench.writeName(x, "a");
        Bench.due("add", x.add(method), 0);
        x.pack(0);
        Bench.due("open", x.open(), 1);
        return x;
    }

    private static void dueSqueezed(int method, List<Integer> bytes, List<Integer> squeezed) {
        ArchiveBench x = opened(method, bytes);
        String what = "method " + method + " of " + bytes;
        Bench.due(what, Bench.imageOf(x).subList(9, 9 + x.file(0, 3)), squeezed);
        Bench.due(what + " taken out", x.take(0), bytes.size());
        Bench.due(what + " taken out", Bench.takenOf(x), bytes);
    }
}
