/** Packs files into one row of bytes, reads any row of bytes back with checks, and takes files out of it. */
public final class ArchiveBench {
    public static final int REFUSED = -1;
    public static final int FULL = -2;
    public static final int CUT = -3;
    public static final int STRANGE = -4;
    public static final int SPOILED = -5;
    public static final int UNSAFE = -6;
    public static final int WRONG = -7;
    public static final int TWICE = -8;
    public static final int CHAIN = 0;
    public static final int INDEX = 1;

    private static final int FINE = 0;

    private static final int KEPT = 0;
    private static final int RUNS = 1;
    private static final int COPIES = 2;

    private static final int MOST_FILES = 6;
    private static final int MOST_NAME = 8;
    private static final int MOST_BYTES = 60;
    private static final int MOST_IMAGE = 600;
    private static final int MOST_BYTE = 255;
    // RUNS makes two bytes of each one above 245 that stands alone; no method makes more.
    private static final int MOST_SQUEEZED = 2 * MOST_BYTES;

    private static final int RECORD_MARK = 67;
    private static final int CHAIN_END = 69;
    private static final int INDEX_MARK = 73;
    private static final int TAIL_MARK = 88;
    private static final int TAIL_LENGTH = 6;
    private static final int RECORD_STEP = 4;
    // A name of the greatest length and the eight bytes round it, in a record as in a directory's entry.
    private static final int MOST_HEAD = MOST_NAME + 8;
    // An index that is not yet known to fit into the image; a chain is never longer.
    private static final int MOST_DRAFT = 1 + MOST_FILES * (MOST_HEAD + MOST_SQUEEZED) + TAIL_LENGTH;

    private static final int RUN_MARK = 246;
    private static final int MOST_RUN = 9;
    private static final int COPY_MARK = 32;
    private static final int COPY_MARK_END = 64;
    private static final int LEAST_COPY = 3;
    private static final int MOST_COPY = 34;
    private static final int MOST_DISTANCE = 32;
    private static final int MOST_LITERALS = 32;

    private static final int FIRST_CHARACTER = 16;

    private final Row writtenName;
    private final Row writtenBytes;
    private final Packer packer;
    private final Archive archive;
    private final Row made;
    private final Row takenBytes;

    public ArchiveBench() {
        writtenName = new Row(MOST_NAME);
        writtenBytes = new Row(MOST_BYTES);
        packer = new Packer();
        archive = new Archive();
        made = new Row(MOST_BYTES);
        takenBytes = new Row(MOST_BYTES);
    }

    public int name(int character) {
        if (!isNameCharacter(character)) {
            return REFUSED;
        }
        return writtenName.append(character) ? writtenName.length : FULL;
    }

    public int data(int b, int n) {
        if (!isByte(b) || n < 1 || n > MOST_BYTES) {
            return REFUSED;
        }
        return writtenBytes.appendTimes(b, n) ? writtenBytes.length : FULL;
    }

    public int add(int method) {
        if (method < KEPT || method > COPIES || writtenName.length == 0) {
            return REFUSED;
        }
        int number = packer.files;
        if (number >= MOST_FILES) {
            return FULL;
        }
        packer.waiting[number].become(writtenName, writtenBytes, method);
        packer.files++;
        writtenName.cutTo(0);
        writtenBytes.cutTo(0);
        return number;
    }

    public int pack(int form) {
        if (form != CHAIN && form != INDEX) {
            return REFUSED;
        }
        if (form == CHAIN) {
            packer.draftChain();
        } else {
            packer.draftIndex();
        }
        if (packer.draft.length > MOST_IMAGE) {
            return FULL;
        }
        archive.row.become(packer.draft);
        archive.close();
        packer.files = 0;
        return archive.row.length;
    }

    public int put(int i, int b) {
        if (i < 0 || i > archive.row.length || !isByte(b)) {
            return REFUSED;
        }
        if (i < archive.row.length) {
            archive.row.set(i, b);
        } else if (!archive.row.append(b)) {
            return FULL;
        }
        archive.close();
        return archive.row.length;
    }

    public int cut(int n) {
        if (n < 0 || n > archive.row.length) {
            return REFUSED;
        }
        archive.row.cutTo(n);
        archive.close();
        return n;
    }

    public int image(int i) {
        return archive.row.at(i);
    }

    public int open() {
        switch (archive.row.at(0)) {
            case RECORD_MARK:
            case CHAIN_END:
                return archive.openChain();
            case INDEX_MARK:
                return archive.openIndex();
            default:
                return archive.stop(STRANGE, 0);
        }
    }

    public int place() {
        return archive.endedAt;
    }

    public int take(int file) {
        if (!archive.has(file)) {
            return REFUSED;
        }
        OpenFile wanted = archive.files[file];
        if (!wanted.hasSafeName()) {
            return UNSAFE;
        }
        if (archive.hasNameBefore(file)) {
            return TWICE;
        }
        if (!Unsqueezing.unsqueeze(archive.row, wanted, made)) {
            return SPOILED;
        }
        if (made.check(0, made.length) != wanted.check) {
            return WRONG;
        }
        takenBytes.become(made);
        return takenBytes.length;
    }

    public int taken(int i) {
        return takenBytes.at(i);
    }

    public int file(int file, int what) {
        return archive.has(file) ? archive.files[file].tell(what) : REFUSED;
    }

    public int count(int what) {
        switch (what) {
            case 0:
                return packer.files;
            case 1:
                return archive.row.length;
            case 2:
                return archive.opened;
            case 3:
                return writtenName.length;
            case 4:
                return writtenBytes.length;
            case 5:
                return takenBytes.length;
            default:
                return REFUSED;
        }
    }

    private static boolean isByte(int b) {
        return b >= 0 && b <= MOST_BYTE;
    }

    private static boolean isNameCharacter(int character) {
        return (character >= 'a' && character <= 'z') || character == '.' || character == '/';
    }

    /** A row of bytes that never outgrows the room it was made with. */
    private static final class Row {
        private final int[] cells;
        int length;

        Row(int room) {
            cells = new int[room];
            length = 0;
        }

        int at(int i) {
            return i >= 0 && i < length ? cells[i] : REFUSED;
        }

        int numberAt(int i) {
            return at(i) * 256 + at(i + 1);
        }

        void set(int i, int b) {
            if (i >= 0 && i < length) {
                cells[i] = b;
            }
        }

        void cutTo(int n) {
            if (n >= 0 && n < length) {
                length = n;
            }
        }

        boolean append(int b) {
            if (length >= cells.length) {
                return false;
            }
            cells[length] = b;
            length++;
            return true;
        }

        /** Appends all of them or, where the room is too small, none. */
        boolean appendTimes(int b, int times) {
            if (times > cells.length - length) {
                return false;
            }
            for (int i = 0; i < times; i++) {
                cells[length] = b;
                length++;
            }
            return true;
        }

        void appendNumber(int number) {
            append(number / 256);
            append(number % 256);
        }

        /** Appends a part of a row, or nothing where the room is too small or there is no such part. */
        boolean appendPart(Row from, int begin, int end) {
            if (begin < 0 || begin > end || end > from.length || end - begin > cells.length - length) {
                return false;
            }
            System.arraycopy(from.cells, begin, cells, length, end - begin);
            length += end - begin;
            return true;
        }

        void appendAll(Row from) {
            appendPart(from, 0, from.length);
        }

        void become(Row other) {
            cutTo(0);
            appendAll(other);
        }

        boolean isSameAs(Row other) {
            if (length != other.length) {
                return false;
            }
            for (int i = 0; i < length; i++) {
                if (at(i) != other.at(i)) {
                    return false;
                }
            }
            return true;
        }

        int sum(int begin, int end) {
            int sum = 0;
            for (int i = begin; i < end; i++) {
                sum += at(i);
            }
            return sum & 255;
        }

        int check(int begin, int end) {
            int c = 65535;
            for (int i = begin; i < end; i++) {
                c = checkWith(c, at(i));
            }
            return c;
        }

        private static int checkWith(int before, int b) {
            int c = before;
            for (int bit = 7; bit >= 0; bit--) {
                int t = (b >> bit & 1) ^ (c >> 15 & 1);
                c = (c * 2) & 65535;
                if (t == 1) {
                    c ^= 4129;
                }
            }
            return c;
        }
    }

    /** How rows are squeezed. */
    private static final class Squeezing {
        static void squeeze(int method, Row from, Row to) {
            to.cutTo(0);
            if (method == RUNS) {
                squeezeRuns(from, to);
            } else if (method == COPIES) {
                squeezeCopies(from, to);
            } else {
                to.appendAll(from);
            }
        }

        private static void squeezeRuns(Row from, Row to) {
            int p = 0;
            while (p < from.length) {
                int v = from.at(p);
                int n = 1;
                while (n < MOST_RUN && from.at(p + n) == v) {
                    n++;
                }
                if (n <= 2 && v < RUN_MARK) {
                    to.appendTimes(v, n);
                } else {
                    to.append(RUN_MARK + n);
                    to.append(v);
                }
                p += n;
            }
        }

        private static void squeezeCopies(Row from, Row to) {
            int literals = 0;
            int p = 0;
            while (p < from.length) {
                int distance = bestDistance(from, p);
                int length = copyLength(from, p, distance);
                if (length >= LEAST_COPY) {
                    appendLiterals(from, p - literals, p, to);
                    literals = 0;
                    to.append(COPY_MARK + length - LEAST_COPY);
                    to.append(distance - 1);
                    p += length;
                } else {
                    literals++;
                    p++;
                }
            }
            appendLiterals(from, p - literals, p, to);
        }

        /** The least of the distances that make the longest copy at p. */
        private static int bestDistance(Row from, int p) {
            int best = 1;
            int longest = 0;
            for (int distance = 1; distance <= MOST_DISTANCE && distance <= p; distance++) {
                int length = copyLength(from, p, distance);
                if (length > longest) {
                    longest = length;
                    best = distance;
                }
            }
            return best;
        }

        private static int copyLength(Row from, int p, int distance) {
            int length = 0;
            while (length < MOST_COPY && p + length < from.length
                    && from.at(p + length) == from.at(p + length - distance)) {
                length++;
            }
            return length;
        }

        private static void appendLiterals(Row from, int begin, int end, Row to) {
            for (int p = begin; p < end; p += MOST_LITERALS) {
                int many = Math.min(MOST_LITERALS, end - p);
                to.append(many - 1);
                to.appendPart(from, p, p + many);
            }
        }
    }

    /** How squeezed bytes in the image become a row again. */
    private static final class Unsqueezing {
        /** Answers whether the bytes are not SPOILED; only then does the row hold them. */
        static boolean unsqueeze(Row image, OpenFile file, Row to) {
            int begin = file.squeezedAt;
            int end = begin + file.squeezedLength;
            to.cutTo(0);
            boolean sound;
            if (file.method == RUNS) {
                sound = unsqueezeRuns(image, begin, end, to);
            } else if (file.method == COPIES) {
                sound = unsqueezeCopies(image, begin, end, to);
            } else {
                sound = to.appendPart(image, begin, end);
            }
            return sound && to.length == file.length;
        }

        private static boolean unsqueezeRuns(Row image, int begin, int end, Row to) {
            int p = begin;
            while (p < end) {
                int b = image.at(p);
                boolean isRun = b >= RUN_MARK;
                if (isRun && (b == RUN_MARK || p + 1 >= end)) {
                    return false;
                }
                boolean fits = isRun ? to.appendTimes(image.at(p + 1), b - RUN_MARK) : to.append(b);
                if (!fits) {
                    return false;
                }
                p += isRun ? 2 : 1;
            }
            return true;
        }

        private static boolean unsqueezeCopies(Row image, int begin, int end, Row to) {
            int p = begin;
            while (p < end) {
                int b = image.at(p);
                if (b < 0 || b >= COPY_MARK_END) {
                    return false;
                }
                boolean isCopy = b >= COPY_MARK;
                int behind = isCopy ? 1 : b + 1;
                if (p + behind >= end) {
                    return false;
                }
                boolean sound = isCopy
                        ? copyBack(to, b - COPY_MARK + LEAST_COPY, image.at(p + 1) + 1)
                        : to.appendPart(image, p + 1, p + 1 + behind);
                if (!sound) {
                    return false;
                }
                p += 1 + behind;
            }
            return true;
        }

        private static boolean copyBack(Row to, int length, int distance) {
            if (distance > MOST_DISTANCE || distance > to.length) {
                return false;
            }
            // Byte after byte, since a copy may reach into what it makes itself.
            for (int i = 0; i < length; i++) {
                if (!to.append(to.at(to.length - distance))) {
                    return false;
                }
            }
            return true;
        }
    }

    /** A file that waits to be packed, squeezed already. */
    private static final class WaitingFile {
        private final Row ownName;
        final Row squeezed;
        private int method;
        private int length;
        private int check;
        int squeezedAt;

        WaitingFile() {
            ownName = new Row(MOST_NAME);
            squeezed = new Row(MOST_SQUEEZED);
        }

        void become(Row newName, Row bytes, int newMethod) {
            ownName.become(newName);
            Squeezing.squeeze(newMethod, bytes, squeezed);
            method = newMethod;
            length = bytes.length;
            check = bytes.check(0, bytes.length);
        }

        void appendMethodAndName(Row to) {
            to.append(method);
            to.append(ownName.length);
            to.appendAll(ownName);
        }

        void appendLengthsAndCheck(Row to) {
            to.append(squeezed.length);
            to.append(length);
            to.appendNumber(check);
        }
    }

    /** The files to be packed, and the draft of an image of them. */
    private static final class Packer {
        final WaitingFile[] waiting;
        int files;
        // A row beside the image, which has to stay as it is where the draft turns out too long.
        final Row draft;

        Packer() {
            waiting = new WaitingFile[MOST_FILES];
            for (int i = 0; i < waiting.length; i++) {
                waiting[i] = new WaitingFile();
            }
            files = 0;
            draft = new Row(MOST_DRAFT);
        }

        void draftChain() {
            draft.cutTo(0);
            for (int i = 0; i < files; i++) {
                appendRecord(waiting[i]);
            }
            draft.append(CHAIN_END);
        }

        private void appendRecord(WaitingFile file) {
            int begin = draft.length;
            draft.append(RECORD_MARK);
            file.appendMethodAndName(draft);
            file.appendLengthsAndCheck(draft);
            draft.append(draft.sum(begin, draft.length));
            draft.appendAll(file.squeezed);
            draft.appendTimes(0, zerosBehind(draft.length));
        }

        void draftIndex() {
            draft.cutTo(0);
            draft.append(INDEX_MARK);
            for (int i = 0; i < files; i++) {
                waiting[i].squeezedAt = draft.length;
                draft.appendAll(waiting[i].squeezed);
            }
            int directory = draft.length;
            for (int i = 0; i < files; i++) {
                appendEntry(waiting[i]);
            }
            int check = draft.check(directory, draft.length);
            draft.append(TAIL_MARK);
            draft.append(files);
            draft.appendNumber(directory);
            draft.appendNumber(check);
        }

        private void appendEntry(WaitingFile file) {
            file.appendMethodAndName(draft);
            draft.appendNumber(file.squeezedAt);
            file.appendLengthsAndCheck(draft);
        }

        /** How many zeros stand behind a record that would end at a place. */
        static int zerosBehind(int end) {
            return (RECORD_STEP - end % RECORD_STEP) % RECORD_STEP;
        }
    }

    /** What opening the image has found out about one file. */
    private static final class OpenFile {
        final Row ownName;
        int method;
        int squeezedAt;
        int squeezedLength;
        int length;
        int check;

        OpenFile() {
            ownName = new Row(MOST_NAME);
        }

        int tell(int what) {
            switch (what) {
                case 0:
                    return method;
                case 1:
                    return ownName.length;
                case 2:
                    return squeezedAt;
                case 3:
                    return squeezedLength;
                case 4:
                    return length;
                case 5:
                    return check;
                default:
                    return what < FIRST_CHARACTER ? REFUSED : ownName.at(what - FIRST_CHARACTER);
            }
        }

        /** A name that begins with '/' needs no test of its own: its first part is empty. */
        boolean hasSafeName() {
            int begin = 0;
            for (int i = 0; i <= ownName.length; i++) {
                if (i == ownName.length || ownName.at(i) == '/') {
                    if (!isSafePart(begin, i)) {
                        return false;
                    }
                    begin = i + 1;
                }
            }
            return true;
        }

        private boolean isSafePart(int begin, int end) {
            boolean isUpwards = end - begin == 2 && ownName.at(begin) == '.' && ownName.at(begin + 1) == '.';
            return end > begin && !isUpwards;
        }
    }

    /** The image, and what opening it came to. */
    private static final class Archive {
        final Row row;
        final OpenFile[] files;
        int opened;
        int endedAt;
        private int cursor;
        // Bytes that are needed must stand before this place.
        private int limit;

        Archive() {
            row = new Row(MOST_IMAGE);
            // One more than may be open: a seventh record's head is read before it is one too many.
            files = new OpenFile[MOST_FILES + 1];
            for (int i = 0; i < files.length; i++) {
                files[i] = new OpenFile();
            }
            opened = 0;
            endedAt = REFUSED;
        }

        void close() {
            opened = 0;
        }

        boolean has(int file) {
            return file >= 0 && file < opened;
        }

        boolean hasNameBefore(int file) {
            for (int i = 0; i < file; i++) {
                if (files[i].ownName.isSameAs(files[file].ownName)) {
                    return true;
                }
            }
            return false;
        }

        /** Ends an opening that has failed. */
        int stop(int answer, int at) {
            opened = 0;
            endedAt = at;
            return answer;
        }

        private void start(int from, int end) {
            opened = 0;
            endedAt = REFUSED;
            cursor = from;
            limit = end;
        }

        int openChain() {
            start(0, row.length);
            for (int i = 0; i <= MOST_FILES; i++) {
                int begin = cursor;
                int mark = readByte();
                if (mark < 0) {
                    return mark;
                }
                if (mark == CHAIN_END) {
                    return opened;
                }
                if (mark != RECORD_MARK) {
                    return stop(STRANGE, begin);
                }
                int answer = readRecordHead(files[i], begin);
                if (answer < 0) {
                    return answer;
                }
                if (opened == MOST_FILES) {
                    return stop(FULL, begin);
                }
                answer = passSqueezed(files[i]);
                if (answer < 0) {
                    return answer;
                }
                opened++;
            }
            // Never reached: the seventh record has ended the opening above.
            return stop(FULL, cursor);
        }

        private int readRecordHead(OpenFile file, int begin) {
            int answer = readMethodAndName(file);
            if (answer < 0) {
                return answer;
            }
            file.squeezedLength = readByte();
            if (file.squeezedLength < 0) {
                return file.squeezedLength;
            }
            answer = readLengthAndCheck(file);
            if (answer < 0) {
                return answer;
            }
            int due = row.sum(begin, cursor);
            return readBetween(due, due);
        }

        private int passSqueezed(OpenFile file) {
            file.squeezedAt = cursor;
            int end = cursor + file.squeezedLength;
            int next = end + Packer.zerosBehind(end);
            if (next > limit) {
                return stop(CUT, limit);
            }
            for (int i = end; i < next; i++) {
                if (row.at(i) != 0) {
                    return stop(STRANGE, i);
                }
            }
            cursor = next;
            return FINE;
        }

        int openIndex() {
            int tail = row.length - TAIL_LENGTH;
            int answer = testTail(tail);
            if (answer < 0) {
                return answer;
            }
            int many = row.at(tail + 1);
            int directory = row.numberAt(tail + 2);
            start(directory, tail);
            for (int i = 0; i < many && i < MOST_FILES; i++) {
                answer = readEntry(files[i], directory);
                if (answer < 0) {
                    return answer;
                }
                opened++;
            }
            return cursor < tail ? stop(STRANGE, cursor) : opened;
        }

        private int testTail(int tail) {
            if (tail < 1) {
                return stop(CUT, row.length);
            }
            if (row.at(tail) != TAIL_MARK) {
                return stop(STRANGE, tail);
            }
            if (row.at(tail + 1) > MOST_FILES) {
                return stop(STRANGE, tail + 1);
            }
            int directory = row.numberAt(tail + 2);
            if (directory < 1 || directory > tail) {
                return stop(STRANGE, tail + 2);
            }
            if (row.check(directory, tail) != row.numberAt(tail + 4)) {
                return stop(STRANGE, tail + 4);
            }
            return FINE;
        }

        private int readEntry(OpenFile file, int directory) {
            int answer = readMethodAndName(file);
            if (answer < 0) {
                return answer;
            }
            int begin = cursor;
            file.squeezedAt = readNumber();
            if (file.squeezedAt < 0) {
                return file.squeezedAt;
            }
            file.squeezedLength = readByte();
            if (file.squeezedLength < 0) {
                return file.squeezedLength;
            }
            if (file.squeezedAt < 1 || file.squeezedAt + file.squeezedLength > directory) {
                return stop(STRANGE, begin);
            }
            return readLengthAndCheck(file);
        }

        private int readMethodAndName(OpenFile file) {
            file.method = readBetween(KEPT, COPIES);
            if (file.method < 0) {
                return file.method;
            }
            int many = readBetween(1, MOST_NAME);
            file.ownName.cutTo(0);
            for (int i = 0; i < many; i++) {
                int character = readByte();
                if (character < 0) {
                    return character;
                }
                if (!isNameCharacter(character)) {
                    return stop(STRANGE, cursor - 1);
                }
                file.ownName.append(character);
            }
            return many;
        }

        private int readLengthAndCheck(OpenFile file) {
            file.length = readBetween(0, MOST_BYTES);
            if (file.length < 0) {
                return file.length;
            }
            file.check = readNumber();
            return file.check;
        }

        private int readNumber() {
            int high = readByte();
            if (high < 0) {
                return high;
            }
            int low = readByte();
            return low < 0 ? low : high * 256 + low;
        }

        private int readBetween(int least, int most) {
            int b = readByte();
            if (b >= 0 && (b < least || b > most)) {
                return stop(STRANGE, cursor - 1);
            }
            return b;
        }

        /** The next byte, or CUT; all that is read passes on the negative answer that ended the opening. */
        private int readByte() {
            if (cursor >= limit) {
                return stop(CUT, limit);
            }
            int b = row.at(cursor);
            cursor++;
            return b;
        }
    }
}
