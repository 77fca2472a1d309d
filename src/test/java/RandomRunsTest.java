import java.util.List;

/** All promises: runs of at most 512 calls, the same each time, answered as the model answers them. */
public final class RandomRunsTest {
    private static final int RUNS = 3000;
    private static final int CALLS = 512;
    private static final int[] MARKS = {67, 69, 73, 88, 0, 1, 2, 3, 31, 32, 63, 64, 245, 246, 247, 255, 97, 46, 47};
    private static final int[] EDGES = {Integer.MIN_VALUE, -1, 0, 1, 2, 5, 6, 7, 8, 59, 60, 61, 255, 256, 599, 600, 601,
        Integer.MAX_VALUE};

    private long seed;
    private int left;
    private int run;
    private ArchiveBench x;
    private Model model;

    public static void main(String[] args) {
        RandomRunsTest test = new RandomRunsTest();
        for (int run = 0; run < RUNS; run++) {
            test.play(run);
        }
        Bench.end();
    }

    private int below(int n) {
        seed = seed * 6364136223846793005L + 1442695040888963407L;
        return (int) ((seed >>> 33) % n);
    }

    private void due(String call, int got, int want) {
        left--;
        if (got != want) {
            Bench.due("run " + run + ": " + call, got, want);
        }
    }

    private void play(int number) {
        run = number;
        seed = number * 7919L + 17;
        left = CALLS;
        x = new ArchiveBench();
        model = new Model();
        // Each step keeps within 90 calls.
        while (left >= 90) {
            step();
        }
    }

    private void step() {
        switch (below(12)) {
            case 0, 1, 2, 3 -> file();
            case 4, 5 -> pack(below(2));
            case 6, 7 -> spoil();
            case 8 -> mend();
            case 9 -> cut(model.count(1) - below(4));
            case 10 -> edge();
            default -> put(model.count(1), MARKS[below(MARKS.length)]);
        }
        if (below(2) == 0) {
            open();
        }
    }

    private void file() {
        int kind = below(4);
        for (int i = 1 + below(3); i > 0; i--) {
            name("ab./".charAt(kind == 0 ? below(4) : below(2)));
        }
        int base = below(2) == 0 ? 0 : 244;
        int spread = 1 + below(11);
        for (int i = below(24); i > 0; i--) {
            data(base + below(spread), 1 + (below(4) == 0 ? below(14) : below(2)));
        }
        add(below(3));
    }

    private void spoil() {
        for (int i = 1 + below(3); i > 0 && model.count(1) > 0; i--) {
            int at = below(model.count(1));
            put(at, below(3) == 0 ? MARKS[below(MARKS.length)] : model.image(at) ^ 1 << below(8));
        }
    }

    /** Makes sums and checks right again, so that what stands behind them is reached. */
    private void mend() {
        int length = model.count(1);
        if (model.image(0) == 67) {
            int n = model.image(2);
            int end = 3 + Math.max(0, Math.min(n, 8)) + 4;
            if (end < length) {
                int sum = 0;
                for (int i = 0; i < end; i++) {
                    sum += model.image(i);
                }
                put(end, sum & 255);
            }
        } else if (model.image(0) == 73 && length >= 7) {
            int tail = length - 6;
            int directory = model.image(tail + 2) * 256 + model.image(tail + 3);
            if (directory >= 1 && directory < tail) {
                put(directory + below(tail - directory), below(2) == 0 ? below(256) : MARKS[below(MARKS.length)]);
                List<Integer> bytes = Bench.list();
                for (int i = directory; i < tail; i++) {
                    bytes.add(model.image(i));
                }
                put(tail + 4, Bench.check(bytes) / 256);
                put(tail + 5, Bench.check(bytes) % 256);
            }
        }
    }

    private void open() {
        due("open", x.open(), model.open());
        due("place", x.place(), model.place());
        for (int file = 0; file < model.count(2); file++) {
            int what = below(8);
            due("file", x.file(file, what < 6 ? what : what + 10), model.file(file, what < 6 ? what : what + 10));
            due("take " + file, x.take(file), model.take(file));
            int i = below(61);
            due("taken", x.taken(i), model.taken(i));
        }
        for (int what = 0; what <= 5; what++) {
            due("count " + what, x.count(what), model.count(what));
        }
        for (int i = 0; i < 8; i++) {
            int at = below(1 + model.count(1));
            due("image " + at, x.image(at), model.image(at));
        }
    }

    private void edge() {
        int a = EDGES[below(EDGES.length)];
        int b = EDGES[below(EDGES.length)];
        name(a);
        data(a, b);
        add(a);
        put(a, b);
        due("image", x.image(a), model.image(a));
        due("take", x.take(a), model.take(a));
        due("taken", x.taken(a), model.taken(a));
        due("file", x.file(a, b), model.file(a, b));
        due("count", x.count(a), model.count(a));
        if (below(3) == 0) {
            cut(a);
            pack(b);
        }
    }

    private void name(int character) {
        due("name " + character, x.name(character), model.name(character));
    }

    private void data(int b, int n) {
        due("data " + b + " " + n, x.data(b, n), model.data(b, n));
    }

    private void add(int method) {
        due("add " + method, x.add(method), model.add(method));
    }

    private void pack(int form) {
        due("pack " + form, x.pack(form), model.pack(form));
    }

    private void put(int i, int b) {
        due("put " + i + " " + b, x.put(i, b), model.put(i, b));
    }

    private void cut(int n) {
        due("cut " + n, x.cut(n), model.cut(n));
    }
}
