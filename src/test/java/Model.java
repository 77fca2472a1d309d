import java.util.ArrayList;
import java.util.List;

/** A second writing of the document, by lists and without thrift, for runs of calls to be held against. */
final class Model {
    /** What ends an opening. */
    private static final class Ended extends RuntimeException {
        private static final long serialVersionUID = 1L;
        final int answer;
        final int place;

        Ended(int answer, int place) {
            super(null, null, false, false);
            this.answer = answer;
            this.place = place;
        }
    }

    private record Waiting(List<Integer> name, int method, List<Integer> bytes) {
    }

    private record Opened(int method, List<Integer> name, int place, int many, int length, int check) {
    }

    private List<Integer> name = new ArrayList<>();
    private List<Integer> bytes = new ArrayList<>();
    private List<Waiting> files = new ArrayList<>();
    private List<Integer> image = new ArrayList<>();
    private List<Opened> opened = new ArrayList<>();
    private List<Integer> taken = new ArrayList<>();
    private int place = -1;
    private int at;

    int name(int character) {
        if ("abcdefghijklmnopqrstuvwxyz./".indexOf(character) < 0) {
            return -1;
        }
        if (name.size() == 8) {
            return -2;
        }
        name.add(character);
        return name.size();
    }

    int data(int b, int n) {
        if (b < 0 || b > 255 || n < 1 || n > 60) {
            return -1;
        }
        if (bytes.size() + n > 60) {
            return -2;
        }
        bytes.addAll(Bench.times(b, n));
        return bytes.size();
    }

    int add(int method) {
        if (method < 0 || method > 2 || name.isEmpty()) {
            return -1;
        }
        if (files.size() == 6) {
            return -2;
        }
        files.add(new Waiting(name, method, bytes));
        name = new ArrayList<>();
        bytes = new ArrayList<>();
        return files.size() - 1;
    }

    int pack(int form) {
        if (form < 0 || form > 1) {
            return -1;
        }
        List<Integer> made = form == 0 ? chain() : index();
        if (made.size() > 600) {
            return -2;
        }
        image = made;
        files = new ArrayList<>();
        opened = new ArrayList<>();
        return image.size();
    }

    private List<Integer> chain() {
        List<Integer> made = new ArrayList<>();
        for (Waiting file : files) {
            List<Integer> squeezed = squeezed(file.method, file.bytes);
            List<Integer> head = Bench.joined(Bench.list(67, file.method, file.name.size()), file.name,
                    Bench.list(squeezed.size(), file.bytes.size()), Bench.number(Bench.check(file.bytes)));
            made = Bench.joined(made, head, Bench.list(Bench.sum(head)), squeezed);
            while (made.size() % 4 != 0) {
                made.add(0);
            }
        }
        made.add(69);
        return made;
    }

    private List<Integer> index() {
        List<Integer> data = new ArrayList<>();
        List<Integer> directory = new ArrayList<>();
        for (Waiting file : files) {
            List<Integer> squeezed = squeezed(file.method, file.bytes);
            directory = Bench.joined(directory, Bench.list(file.method, file.name.size()), file.name,
                    Bench.number(1 + data.size()), Bench.list(squeezed.size(), file.bytes.size()),
                    Bench.number(Bench.check(file.bytes)));
            data.addAll(squeezed);
        }
        return Bench.index(data, directory, files.size());
    }

    private static List<Integer> squeezed(int method, List<Integer> row) {
        return method == 0 ? row : method == 1 ? runs(row) : copies(row);
    }

    private static List<Integer> runs(List<Integer> row) {
        List<Integer> made = new ArrayList<>();
        for (int p = 0, n; p < row.size(); p += n) {
            int v = row.get(p);
            n = 9;
            while (p + n > row.size() || !row.subList(p, p + n).equals(Bench.times(v, n))) {
                n--;
            }
            made.addAll(n <= 2 && v < 246 ? Bench.times(v, n) : Bench.list(246 + n, v));
        }
        return made;
    }

    private static List<Integer> copies(List<Integer> row) {
        List<Integer> made = new ArrayList<>();
        List<Integer> literals = new ArrayList<>();
        int p = 0;
        while (p < row.size()) {
            int[] copy = copyAt(row, p);
            if (copy == null) {
                literals.add(row.get(p));
                p++;
                continue;
            }
            flush(literals, made);
            made.addAll(Bench.list(32 + copy[0] - 3, copy[1] - 1));
            p += copy[0];
        }
        flush(literals, made);
        return made;
    }

    private static int[] copyAt(List<Integer> row, int p) {
        for (int length = Math.min(34, row.size() - p); length >= 3; length--) {
            for (int distance = 1; distance <= Math.min(32, p); distance++) {
                if (row.subList(p, p + length).equals(row.subList(p - distance, p - distance + length))) {
                    return new int[] {length, distance};
                }
            }
        }
        return null;
    }

    private static void flush(List<Integer> literals, List<Integer> made) {
        while (!literals.isEmpty()) {
            List<Integer> some = literals.subList(0, Math.min(32, literals.size()));
            made.add(some.size() - 1);
            made.addAll(some);
            some.clear();
        }
    }

    int put(int i, int b) {
        if (i < 0 || i > image.size() || b < 0 || b > 255) {
            return -1;
        }
        if (i == 600) {
            return -2;
        }
        if (i == image.size()) {
            image.add(b);
        } else {
            image.set(i, b);
        }
        opened = new ArrayList<>();
        return image.size();
    }

    int cut(int n) {
        if (n < 0 || n > image.size()) {
            return -1;
        }
        image = new ArrayList<>(image.subList(0, n));
        opened = new ArrayList<>();
        return n;
    }

    int image(int i) {
        return i >= 0 && i < image.size() ? image.get(i) : -1;
    }

    int open() {
        opened = new ArrayList<>();
        try {
            int first = image(0);
            demand(first == 67 || first == 69 || first == 73, 0);
            opened = first == 73 ? openIndex() : openChain();
            place = -1;
            return opened.size();
        } catch (Ended end) {
            place = end.place;
            return end.answer;
        }
    }

    private static void demand(boolean right, int place) {
        if (!right) {
            throw new Ended(-4, place);
        }
    }

    private int next(int limit) {
        if (at >= limit) {
            throw new Ended(-3, limit);
        }
        return image.get(at++);
    }

    private List<Integer> nextName(int limit) {
        int n = next(limit);
        demand(n >= 1 && n <= 8, at - 1);
        List<Integer> made = new ArrayList<>();
        for (int i = 0; i < n; i++) {
            made.add(next(limit));
            demand("abcdefghijklmnopqrstuvwxyz./".indexOf(made.get(i)) >= 0, at - 1);
        }
        return made;
    }

    private int nextAtMost(int most, int limit) {
        int b = next(limit);
        demand(b <= most, at - 1);
        return b;
    }

    private int nextNumber(int limit) {
        int high = next(limit);
        return high * 256 + next(limit);
    }

    private List<Opened> openChain() {
        List<Opened> made = new ArrayList<>();
        int end = image.size();
        at = 0;
        while (true) {
            int begin = at;
            int mark = next(end);
            if (mark == 69) {
                return made;
            }
            demand(mark == 67, begin);
            int method = nextAtMost(2, end);
            List<Integer> ownName = nextName(end);
            int many = next(end);
            int length = nextAtMost(60, end);
            int check = nextNumber(end);
            int sum = Bench.sum(image.subList(begin, at));
            demand(next(end) == sum, at - 1);
            if (made.size() == 6) {
                throw new Ended(-2, begin);
            }
            made.add(new Opened(method, ownName, at, many, length, check));
            at += many;
            int zeros = at;
            while (at % 4 != 0) {
                at++;
            }
            if (at > end) {
                throw new Ended(-3, end);
            }
            for (int i = zeros; i < at; i++) {
                demand(image.get(i) == 0, i);
            }
        }
    }

    private List<Opened> openIndex() {
        int size = image.size();
        if (size < 7) {
            throw new Ended(-3, size);
        }
        int tail = size - 6;
        demand(image.get(tail) == 88, tail);
        int many = image.get(tail + 1);
        demand(many <= 6, tail + 1);
        int directory = image.get(tail + 2) * 256 + image.get(tail + 3);
        demand(directory >= 1 && directory <= tail, tail + 2);
        List<Integer> check = Bench.number(Bench.check(image.subList(directory, tail)));
        demand(image.subList(tail + 4, size).equals(check), tail + 4);
        List<Opened> made = new ArrayList<>();
        at = directory;
        while (made.size() < many) {
            int method = nextAtMost(2, tail);
            List<Integer> ownName = nextName(tail);
            int begin = at;
            int squeezedAt = nextNumber(tail);
            int squeezed = next(tail);
            demand(squeezedAt >= 1 && squeezedAt + squeezed <= directory, begin);
            int length = nextAtMost(60, tail);
            made.add(new Opened(method, ownName, squeezedAt, squeezed, length, nextNumber(tail)));
        }
        demand(at == tail, at);
        return made;
    }

    int place() {
        return place;
    }

    int take(int file) {
        if (file < 0 || file >= opened.size()) {
            return -1;
        }
        Opened wanted = opened.get(file);
        StringBuilder text = new StringBuilder();
        for (int c : wanted.name) {
            text.append((char) c);
        }
        for (String part : text.toString().split("/", -1)) {
            if (part.isEmpty() || part.equals("..")) {
                return -6;
            }
        }
        for (Opened before : opened.subList(0, file)) {
            if (before.name.equals(wanted.name)) {
                return -8;
            }
        }
        List<Integer> made = unsqueezed(wanted.method, image.subList(wanted.place, wanted.place + wanted.many));
        if (made == null || made.size() != wanted.length) {
            return -5;
        }
        if (Bench.check(made) != wanted.check) {
            return -7;
        }
        taken = made;
        return made.size();
    }

    /** Null where the row is not made of what it should be. */
    private static List<Integer> unsqueezed(int method, List<Integer> row) {
        List<Integer> made = new ArrayList<>();
        int p = 0;
        while (p < row.size()) {
            int b = row.get(p++);
            if (method == 0 || method == 1 && b < 246) {
                made.add(b);
            } else if (method == 1) {
                if (b == 246 || p == row.size()) {
                    return null;
                }
                made.addAll(Bench.times(row.get(p++), b - 246));
            } else if (b < 32) {
                if (p + b + 1 > row.size()) {
                    return null;
                }
                made.addAll(row.subList(p, p + b + 1));
                p += b + 1;
            } else {
                if (b >= 64 || p == row.size() || row.get(p) >= 32 || row.get(p) + 1 > made.size()) {
                    return null;
                }
                int distance = row.get(p++) + 1;
                for (int i = 0; i < b - 32 + 3; i++) {
                    made.add(made.get(made.size() - distance));
                }
            }
        }
        return made;
    }

    int taken(int i) {
        return i >= 0 && i < taken.size() ? taken.get(i) : -1;
    }

    int file(int file, int what) {
        if (file < 0 || file >= opened.size()) {
            return -1;
        }
        Opened f = opened.get(file);
        int[] told = {f.method, f.name.size(), f.place, f.many, f.length, f.check};
        if (what >= 0 && what < 6) {
            return told[what];
        }
        return what >= 16 && what < 16 + f.name.size() ? f.name.get(what - 16) : -1;
    }

    int count(int what) {
        int[] told = {files.size(), image.size(), opened.size(), name.size(), bytes.size(), taken.size()};
        return what >= 0 && what < 6 ? told[what] : -1;
    }
}
