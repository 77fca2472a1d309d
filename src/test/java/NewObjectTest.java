/** Promise 1: nothing is written, packed, open or taken out in a new object, and its image is empty. */
public final class NewObjectTest {
    public static void main(String[] args) {
        ArchiveBench x = new ArchiveBench();
        for (int what = 0; what <= 5; what++) {
            Bench.due("count " + what, x.count(what), 0);
        }
        Bench.due("place", x.place(), ArchiveBench.REFUSED);
        Bench.due("image", x.image(0), ArchiveBench.REFUSED);
        Bench.due("taken", x.taken(0), ArchiveBench.REFUSED);
        Bench.due("take", x.take(0), ArchiveBench.REFUSED);
        Bench.due("file", x.file(0, 0), ArchiveBench.REFUSED);
        Bench.due("add without a name", x.add(0), ArchiveBench.REFUSED);
        Bench.due("cut", x.cut(0), 0);
        Bench.due("cut of more", x.cut(1), ArchiveBench.REFUSED);
        Bench.due("put behind the end", x.put(1, 0), ArchiveBench.REFUSED);
        Bench.dueOpen("an empty image", x, ArchiveBench.STRANGE, 0);

        ArchiveBench other = new ArchiveBench();
        Bench.writeFile(x, "a", 0, 1);
        x.pack(0);
        x.open();
        x.take(0);
        Bench.writeName(x, "b");
        for (int what = 0; what <= 5; what++) {
            Bench.due("count " + what + " of another object", other.count(what), 0);
        }
        Bench.end();
    }
}
