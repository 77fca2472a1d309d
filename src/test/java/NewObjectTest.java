/** Promise 1: a new object. */
public final class NewObjectTest {
    public static void main(String[] args) {
        Bench.sentence(1, "makes an object in the state that the terms give.");
        empty();
        apart();
        manyCalls();
        Bench.end();
    }

    private static void empty() {
        ArchiveBench x = new ArchiveBench();
        for (int what = 0; what <= 5; what++) {
            Bench.due("count " + what, x.count(what), 0);
        }
        Bench.due("place", x.place(), ArchiveBench.REFUSED);
        Bench.due("image", x.image(0), ArchiveBench.REFUSED);
        Bench.due("taken", x.taken(0), ArchiveBench.REFUSED);
        Bench.due("take", x.take(0), ArchiveBench.REFUSED);
        Bench.due("file", x.file(0, 0), ArchiveBench.REFUSED);
        Bench.due("add without a name", x.add(0), ArchiveBench.REFUSED);
        Bench.due("cut", x.cut(0), 0);
        Bench.due("cut of more", x.cut(1), ArchiveBench.REFUSED);
        Bench.due("put behind the end", x.put(1, 0), ArchiveBench.REFUSED);
        Bench.dueEnd("an empty image", x, ArchiveBench.STRANGE, 0);
        Bench.due("pack of nothing", new ArchiveBench().pack(0), 1);
        Bench.due("pack of nothing", new ArchiveBench().pack(1), 7);
    }

    private static void apart() {
        ArchiveBench x = new ArchiveBench();
        ArchiveBench other = new ArchiveBench();
        Bench.writeFile(x, "a", 0, 1);
        x.pack(0);
        x.open();
        x.take(0);
        Bench.writeFile(x, "a", 0, 1);
        Bench.writeName(x, "b");
        x.data(1, 1);
        for (int what = 0; what <= 5; what++) {
            Bench.due("count " + what + " of another object", other.count(what), 0);
            Bench.due("count " + what + " of an object made later", new ArchiveBench().count(what), 0);
        }
    }

    /** An object serves 512 calls, the last as well as the first. */
    private static void manyCalls() {
        ArchiveBench x = new ArchiveBench();
        for (int i = 0; i < 510; i++) {
            Bench.due("put " + i, x.put(i, i & 255), i + 1);
        }
        Bench.due("call 511", x.image(509), 253);
        Bench.due("call 512", x.open(), ArchiveBench.STRANGE);
    }
}
