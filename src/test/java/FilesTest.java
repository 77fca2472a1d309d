import java.util.List;

/** Terms, FILES: how many, in which order, with which names and bytes; which names are SAFE. */
public final class FilesTest {
    public static void main(String[] args) {
        sixInOrder();
        namesAndBytes();
        beginning();
        emptyParts();
        upwardParts();
        Bench.end();
    }

    private static void sixInOrder() {
        Bench.sentence(Bench.TERMS, "FILES being packed: at most 6, in the order in which they were added,");
        for (int form = 0; form <= 1; form++) {
            ArchiveBench x = new ArchiveBench();
            String names = "fbeadc";
            for (int i = 0; i < 6; i++) {
                Bench.writeFile(x, names.substring(i, i + 1), i % 3, i, i, 50 + i);
            }
            Bench.writeName(x, "z");
            Bench.due("a seventh", x.add(0), ArchiveBench.FULL);
            Bench.due("files", x.count(0), 6);
            x.pack(form);
            Bench.dueOpen("form " + form, x, 6);
            for (int i = 0; i < 6; i++) {
                Bench.due("name of file " + i, x.file(i, 16), names.charAt(i));
                Bench.due("method of file " + i, x.file(i, 0), i % 3);
                Bench.due("take " + i, x.take(i), 3);
                Bench.due("bytes of file " + i, Bench.takenOf(x), Bench.list(i, i, 50 + i));
            }
        }
    }

    private static void namesAndBytes() {
        Bench.sentence(Bench.TERMS, "each with a name, 1 .. 8 characters 'a' .. 'z', '.' or '/', a method, and 0 .. 60 bytes.");
        for (String name : new String[] {"a", "z", "./ab", "abcdefgh", "ijklmnop", "qrstuvwx", "y.z/y.z/"}) {
            for (int method = 0; method <= 2; method++) {
                dueKept(name, method, 0);
                dueKept(name, method, 60);
            }
        }
    }

    private static void dueKept(String name, int method, int bytes) {
        ArchiveBench x = new ArchiveBench();
        Bench.writeName(x, name);
        if (bytes > 0) {
            Bench.due("data", x.data(200, bytes), bytes);
        }
        Bench.due("add", x.add(method), 0);
        x.pack(1);
        Bench.dueOpen(name, x, 1);
        Bench.due("length of " + name, x.file(0, 1), name.length());
        for (int i = 0; i < name.length(); i++) {
            Bench.due("character " + i + " of " + name, x.file(0, 16 + i), name.charAt(i));
        }
        Bench.due("method", x.file(0, 0), method);
        Bench.due("bytes", x.file(0, 4), bytes);
        if (!name.endsWith("/")) {
            Bench.due("take", x.take(0), bytes);
            Bench.due("the bytes", Bench.takenOf(x), Bench.times(200, bytes));
        }
    }

    private static void dueSafe(String... names) {
        for (String name : names) {
            dueName(name, 1);
        }
    }

    private static void dueUnsafe(String... names) {
        for (String name : names) {
            dueName(name, ArchiveBench.UNSAFE);
        }
    }

    private static void dueName(String name, int answer) {
        ArchiveBench x = new ArchiveBench();
        Bench.writeFile(x, name, 0, 5);
        x.pack(1);
        Bench.due("open", x.open(), 1);
        Bench.due("take " + name, x.take(0), answer);
        Bench.due("bytes taken out", x.count(5), Math.max(answer, 0));
        // In a chain a name is followed by other bytes.
        List<Integer> record = Bench.record(0, name, 1, Bench.check(Bench.list(5)), 5);
        x = Bench.with(record, Bench.list(69));
        Bench.due("open", x.open(), 1);
        Bench.due("take " + name, x.take(0), answer);
    }

    private static void beginning() {
        Bench.sentence(Bench.TERMS, "A name is SAFE if it does not begin with '/',");
        dueUnsafe("/", "/a", "/.", "/..", "/a/b", "/abcdefg");
        dueSafe("a", "z", "a/b", "abcdefgh");
    }

    private static void emptyParts() {
        Bench.sentence(Bench.TERMS, "and, cut at each '/', has no empty part");
        dueUnsafe("a/", "a//b", "//", "a/b/", "a/b//c", "./", "abcdefg/", "////////");
        dueSafe("a/b/c/d", "ab/cd/ef", "a/bcdefg", "abcdef/g");
    }

    private static void upwardParts() {
        Bench.sentence(Bench.TERMS, "and none that is \"..\".");
        dueUnsafe("..", "../a", "a/..", "a/../b", "../", "../..", "./..", "a/b/../c", "abcde/..", "../abcde");
        dueSafe(".", "...", "a/.", "./a", "./.", "a.", "..a", "a..", ".a", ".a.", "a/.b", "b./a", "a/...", "a/..b/c",
                ".../a", "a/b../c", "a../.b", "........", "./././.a", "a./.b");
    }
}
