/**
 * Pictures of two colours by the codes that are sent over lines: rows as runs, or by where they
 * change against the row above.
 */
public final class FaxFilter {
    private static final int MOST_ROWS = 24;
    private static final int MOST_COLUMNS = 700;
    private static final int MOST_COLLECTED = 400;
    private static final int MOST_BITS = 8 * MOST_COLLECTED;
    private static final int MOST_DAMAGED = 5;

    private static final int ALL_PLAIN = 0;
    private static final int MIXED = 1;
    private static final int ALL_DRAWN = 2;

    private static final int SOUND = 0;
    private static final int CUT = 1;
    private static final int SHORT = 2;
    private static final int DAMAGED = 3;

    // What reading answers instead of a run, a way or a state, all of which are 0 or more.
    private static final int ENDED = -1;
    private static final int NONE = -2;
    private static final int NONE_BEHIND_MAKE = -3;

    private static final int TERMS = 64;
    private static final int MAKES = 10;
    private static final int LONGEST_CODE = 12;

    // How many bits the codes have: of the terms 0 .. 63 first, of the makes 64 .. 640 then.
    private static final byte[] WHITE_BITS = {
        8, 6, 4, 4, 4, 4, 4, 4, 5, 5, 5, 5, 6, 6, 6, 6,
        6, 6, 7, 7, 7, 7, 7, 7, 7, 7, 7, 7, 8, 8, 8, 8,
        8, 8, 8, 8, 8, 8, 8, 8, 8, 8, 8, 8, 8, 8, 8, 8,
        8, 8, 8, 8, 8, 8, 8, 8, 8, 8, 8, 8, 8, 8, 8, 8,
        5, 5, 8, 8, 8, 8, 8, 8, 8, 8
    };
    private static final byte[] DARK_BITS = {
        9, 3, 2, 2, 3, 4, 4, 5, 5, 7, 7, 7, 7, 9, 9, 9,
        9, 9, 9, 9, 9, 12, 12, 12, 12, 12, 12, 12, 12, 12, 12, 12,
        12, 12, 12, 12, 12, 12, 12, 12, 12, 12, 12, 12, 12, 12, 12, 12,
        12, 12, 12, 12, 12, 12, 12, 12, 12, 12, 12, 12, 12, 12, 12, 12,
        12, 12, 12, 12, 12, 12, 12, 12, 12, 12
    };

    private static final int MARK = 1;
    private static final int MARK_BITS = 12;
    private static final int MARK_ZEROS = 11;
    private static final int END_MARKS = 6;
    private static final int END_MARKS_DRAWN = 2;

    // The nine ways to go on in a drawn row: e = b - 3 .. b + 3, then PASS, then ACROSS.
    private static final int FARTHEST = 3;
    private static final int PASS = 7;
    private static final int ACROSS = 8;
    private static final int[] WAY_CODES = {2, 2, 2, 1, 3, 3, 3, 1, 1};
    private static final int[] WAY_BITS = {7, 6, 3, 1, 3, 6, 7, 4, 3};
    private static final int LONGEST_WAY = 7;

    private final Settings settings;
    private final Picture picture;
    private final Table whiteTable;
    private final Table darkTable;
    private final BitsIn collected;
    private final BitsOut written;
    private final Sender sender;
    private final Receiver receiver;

    public FaxFilter(int kind, int columns) {
        settings = new Settings(Math.max(ALL_PLAIN, Math.min(ALL_DRAWN, kind)));
        picture = new Picture(Math.max(1, Math.min(MOST_COLUMNS, columns)));
        whiteTable = new Table(WHITE_BITS);
        darkTable = new Table(DARK_BITS);
        collected = new BitsIn();
        written = new BitsOut(picture.columns);
        sender = new Sender(settings, picture, whiteTable, darkTable, written);
        receiver = new Receiver(settings, picture, whiteTable, darkTable, collected);
    }

    public int told(int what) throws IllegalArgumentException {
        switch (what) {
            case 0:
                return settings.kind;
            case 1:
                return picture.columns;
            case 2:
                return picture.rows;
            case 3:
                return collected.size;
            case 4:
                return written.size();
            case 5:
                return collected.passed;
            case 6:
                return receiver.damaged;
            default:
                throw new IllegalArgumentException("what is told is 0 .. 6");
        }
    }

    public void setting(int what, boolean on) throws IllegalArgumentException {
        switch (what) {
            case 0:
                settings.marks = on;
                break;
            case 1:
                settings.aligned = on;
                break;
            case 2:
                settings.darkIsZero = on;
                break;
            case 3:
                settings.repeatDamaged = on;
                break;
            default:
                throw new IllegalArgumentException("a setting is 0 .. 3");
        }
    }

    public boolean add(long w, int n) {
        if (n < 1 || n > 8 || collected.size + n > MOST_COLLECTED) {
            return false;
        }
        for (int i = 0; i < n; i++) {
            collected.append((int) (w >>> 8 * i) & 255);
        }
        return true;
    }

    public int take() {
        int count = Math.min(MOST_COLLECTED, written.size());
        collected.empty();
        for (int i = 0; i < count; i++) {
            collected.append(written.byteAt(i));
        }
        return count;
    }

    public void drop() {
        collected.empty();
    }

    public int read(int most) throws IllegalArgumentException {
        if (most < 0 || most > MOST_ROWS) {
            throw new IllegalArgumentException("rows to read are 0 .. 24");
        }
        receiver.begin();
        boolean goesOn = true;
        for (int i = 0; i < most && goesOn; i++) {
            goesOn = receiver.reachRow() && receiver.readRow();
        }
        return picture.rows;
    }

    public int state(int row) throws ArrayIndexOutOfBoundsException {
        if (!picture.has(row)) {
            throw new ArrayIndexOutOfBoundsException("no such row");
        }
        return picture.stateOf(row);
    }

    public int row() throws UnsupportedOperationException {
        int row = picture.rows;
        if (row >= MOST_ROWS) {
            throw new UnsupportedOperationException("there are 24 rows");
        }
        picture.whiten(row);
        picture.keep(SOUND);
        return row;
    }

    public void clear() {
        picture.rows = 0;
    }

    public void put(int row, int x, int to, boolean dark)
            throws ArrayIndexOutOfBoundsException, IllegalArgumentException {
        if (!picture.has(row)) {
            throw new ArrayIndexOutOfBoundsException("no such row");
        }
        if (x < 0 || x >= to || to > picture.columns) {
            throw new IllegalArgumentException("places are 0 <= x < to <= columns");
        }
        picture.paint(row, x, to, dark);
        picture.mend(row);
    }

    public int bit(int row, int x) throws ArrayIndexOutOfBoundsException {
        if (!picture.has(row) || x < 0 || x >= picture.columns) {
            throw new ArrayIndexOutOfBoundsException("no such row or place");
        }
        return picture.isDark(row, x) == settings.darkIsZero ? 0 : 1;
    }

    public int run(int row, int i) throws ArrayIndexOutOfBoundsException {
        int length = picture.has(row) ? picture.lengthOfRun(row, i) : NONE;
        if (length < 0) {
            throw new ArrayIndexOutOfBoundsException("no such row or run");
        }
        return length;
    }

    public int runs(int row) throws ArrayIndexOutOfBoundsException {
        if (!picture.has(row)) {
            throw new ArrayIndexOutOfBoundsException("no such row");
        }
        return picture.countRuns(row);
    }

    public int write() {
        sender.sendAll();
        return written.size();
    }

    public int octet(int i) throws ArrayIndexOutOfBoundsException {
        if (i < 0 || i >= written.size()) {
            throw new ArrayIndexOutOfBoundsException("no such byte");
        }
        return written.byteAt(i);
    }

    public int code(boolean dark, int run) throws IllegalArgumentException {
        int slot = Table.slotOf(run);
        if (slot < 0) {
            throw new IllegalArgumentException("a code is of 0 .. 63, or of 64, 128, .. 640");
        }
        Table table = dark ? darkTable : whiteTable;
        return table.bitsOf(slot) * 65536 + table.codeOf(slot);
    }

    /** The kind of the picture, and what was set. */
    private static final class Settings {
        final int kind;
        boolean marks;
        boolean aligned;
        boolean darkIsZero;
        boolean repeatDamaged;

        Settings(int kind) {
            this.kind = kind;
        }

        boolean hasMarks() {
            return kind == MIXED || kind == ALL_PLAIN && marks;
        }
    }

    /**
     * The codes of the runs of one colour. A slot is the place of a run in its table: 0 .. 63 the
     * terms, 64 .. 73 the makes.
     */
    private static final class Table {
        private static final int SLOTS = TERMS + MAKES;

        private final int[] bits = new int[SLOTS];
        private final int[] codes = new int[SLOTS];
        // The slots in the order of their codes, and the least twelve bits that begin with each:
        // as these only fall, the first one that is not above twelve bits is the one they begin with.
        private final int[] ordered = new int[SLOTS];
        private final int[] floors = new int[SLOTS];

        Table(byte[] lengths) {
            int floor = 1 << LONGEST_CODE;
            int rank = 0;
            for (int length = 1; length <= LONGEST_CODE; length++) {
                int spare = LONGEST_CODE - length;
                for (int slot = 0; slot < SLOTS && slot < lengths.length; slot++) {
                    if (lengths[slot] == length && rank < SLOTS) {
                        floor -= 1 << spare;
                        bits[slot] = length;
                        codes[slot] = floor >> spare;
                        ordered[rank] = slot;
                        floors[rank] = floor;
                        rank++;
                    }
                }
            }
        }

        /** The slot of a term or a make; NONE for a run that has no code of its own. */
        static int slotOf(int run) {
            if (run < 0 || run > MAKES * TERMS) {
                return NONE;
            }
            if (run < TERMS) {
                return run;
            }
            return run % TERMS == 0 ? slotOfMake(run) : NONE;
        }

        /** The slot of the make in a run of 64 or more. */
        static int slotOfMake(int run) {
            return TERMS - 1 + run / TERMS;
        }

        static int runOf(int slot) {
            return slot < TERMS ? slot : (slot - TERMS + 1) * TERMS;
        }

        int bitsOf(int slot) {
            return slot >= 0 && slot < SLOTS ? bits[slot] : 0;
        }

        int codeOf(int slot) {
            return slot >= 0 && slot < SLOTS ? codes[slot] : 0;
        }

        /** The slot of the code with which twelve bits begin, or NONE. */
        int slotBeginning(int twelve) {
            for (int rank = 0; rank < SLOTS; rank++) {
                if (floors[rank] <= twelve) {
                    return ordered[rank];
                }
            }
            return NONE;
        }
    }

    /** The rows: their places, 64 to a word from its lowest bit on (1 is dark), and their states. */
    private static final class Picture {
        final int columns;
        int rows;
        private final int wide;
        private final long[] words;
        private final int[] states = new int[MOST_ROWS];

        Picture(int columns) {
            this.columns = columns;
            wide = (columns + 63) / 64;
            words = new long[MOST_ROWS * wide];
        }

        boolean has(int row) {
            return row >= 0 && row < rows;
        }

        int stateOf(int row) {
            return row >= 0 && row < MOST_ROWS ? states[row] : SOUND;
        }

        void mend(int row) {
            if (row >= 0 && row < MOST_ROWS) {
                states[row] = SOUND;
            }
        }

        /** Counts the row behind the last one in. */
        void keep(int state) {
            if (rows >= 0 && rows < MOST_ROWS) {
                states[rows] = state;
                rows++;
            }
        }

        void whiten(int row) {
            paint(row, 0, columns, false);
        }

        void copyAbove(int row) {
            for (int word = 0; word < wide; word++) {
                int index = indexOf(row, word);
                if (index >= 0 && index < words.length) {
                    words[index] = wordOf(row - 1, word);
                }
            }
        }

        void paint(int row, int x, int to, boolean dark) {
            if (x < 0 || x >= to || to > columns) {
                return;
            }
            for (int word = x / 64; word <= (to - 1) / 64; word++) {
                int index = indexOf(row, word);
                // A shift takes its distance modulo 64.
                long from = -1L << Math.max(x, 64 * word);
                long upTo = -1L >>> -Math.min(to, 64 * word + 64);
                if (index >= 0 && index < words.length) {
                    long rest = words[index] & ~(from & upTo);
                    words[index] = dark ? rest | from & upTo : rest;
                }
            }
        }

        /** Whether a place is dark; what lies before or above the picture is white. */
        boolean isDark(int row, int x) {
            return x >= 0 && x < columns && (wordOf(row, x / 64) >>> x & 1) != 0;
        }

        /** The first place of a colour from a place on; columns where there is none. */
        int nextOf(int row, int from, boolean dark) {
            for (int x = Math.max(0, from); x < columns; x = (x | 63) + 1) {
                long word = wordOf(row, x / 64);
                long found = (dark ? word : ~word) & -1L << x;
                if (found != 0) {
                    int below = Long.bitCount((found & -found) - 1);
                    return Math.min(columns, x / 64 * 64 + below);
                }
            }
            return columns;
        }

        /** The first change to a colour from a place on; columns where there is none. */
        int changeTo(int row, int from, boolean dark) {
            boolean isBefore = isDark(row, from - 1) == dark;
            return nextOf(row, isBefore ? nextOf(row, from, !dark) : from, dark);
        }

        int countRuns(int row) {
            int count = 0;
            boolean dark = false;
            for (int x = 0; x < columns && count <= columns; count++) {
                x = nextOf(row, x, !dark);
                dark = !dark;
            }
            return count;
        }

        /** How long a run of a row is, or NONE. */
        int lengthOfRun(int row, int i) {
            int x = 0;
            boolean dark = false;
            for (int run = 0; x < columns && run <= columns; run++) {
                int end = nextOf(row, x, !dark);
                if (run == i) {
                    return end - x;
                }
                x = end;
                dark = !dark;
            }
            return NONE;
        }

        private int indexOf(int row, int word) {
            boolean isThere = row >= 0 && row < MOST_ROWS && word >= 0 && word < wide;
            return isThere ? row * wide + word : NONE;
        }

        private long wordOf(int row, int word) {
            int index = indexOf(row, word);
            return index >= 0 && index < words.length ? words[index] : 0L;
        }
    }

    /** The bytes written last, bit by bit: 64 bits to a word, from its highest one on. */
    private static final class BitsOut {
        private final long[] words;
        private int bits;

        BitsOut(int columns) {
            // No code of a row takes more than seven bits a place, but for a first or last run of
            // 0 places; with that, the mark and what stands before it a row stays below 60 more.
            words = new long[MOST_ROWS * (7 * columns + 60) / 64 + 4];
        }

        void restart() {
            bits = 0;
        }

        int size() {
            return (bits + 7) / 8;
        }

        int byteAt(int i) {
            int word = i / 8;
            return i >= 0 && word < words.length ? (int) (words[word] >>> 56 - i % 8 * 8) & 255 : 0;
        }

        /** Sends as many bits, less than 32, which are the lowest ones of the value. */
        void send(int value, int count) {
            int word = bits / 64;
            int free = 64 - bits % 64;
            if (word < 0 || word + 1 >= words.length) {
                return;
            }
            // What an earlier writing left in a word goes with the first bits of this one.
            long before = free == 64 ? 0L : words[word];
            if (count <= free) {
                words[word] = before | (long) value << free - count;
            } else {
                int behind = count - free;
                words[word] = before | value >>> behind;
                words[word + 1] = (long) value << 64 - behind;
            }
            bits += count;
        }

        /** Bits 0 until as many more bits would end a byte. */
        void alignFor(int more) {
            send(0, -(bits + more) & 7);
        }
    }

    /** The bytes collected, and how many of their bits were passed. */
    private static final class BitsIn {
        int size;
        int passed;
        private final byte[] bytes = new byte[MOST_COLLECTED];

        void empty() {
            size = 0;
        }

        void append(int octet) {
            if (size >= 0 && size < bytes.length) {
                bytes[size] = (byte) octet;
                size++;
            }
        }

        void restart() {
            passed = 0;
        }

        int left() {
            return 8 * size - passed;
        }

        void pass(int count) {
            passed += Math.min(count, left());
        }

        void passToByte() {
            pass(-passed & 7);
        }

        /** The next bits, sixteen at most; 0 where there are none. */
        int peek(int count) {
            int first = passed / 8;
            int three = byteAt(first) << 16 | byteAt(first + 1) << 8 | byteAt(first + 2);
            return three >> 24 - passed % 8 - count & (1 << count) - 1;
        }

        /** How many bits 0 come at once. */
        int zeros() {
            int left = left();
            for (int count = 0; count < left; count++) {
                if (bitAt(passed + count) != 0) {
                    return count;
                }
            }
            return left;
        }

        boolean isMarkNext() {
            int zeros = zeros();
            return zeros >= MARK_ZEROS && zeros < left();
        }

        /** Passes all up to behind the next mark; all, and false, where there is none. */
        boolean passMark() {
            int zeros = 0;
            int end = 8 * size;
            for (int i = passed; i < end; i++) {
                boolean isOne = bitAt(i) != 0;
                if (isOne && zeros >= MARK_ZEROS) {
                    passed = i + 1;
                    return true;
                }
                zeros = isOne ? 0 : zeros + 1;
            }
            passed = end;
            return false;
        }

        private int bitAt(int i) {
            int at = i / 8;
            return i >= 0 && at < size && at < bytes.length ? bytes[at] >> 7 - i % 8 & 1 : 0;
        }

        private int byteAt(int i) {
            return i >= 0 && i < size && i < bytes.length ? bytes[i] & 255 : 0;
        }
    }

    /** Writes the picture. */
    private static final class Sender {
        private final Settings settings;
        private final Picture picture;
        private final Table whiteTable;
        private final Table darkTable;
        private final BitsOut out;

        Sender(Settings settings, Picture picture, Table whiteTable, Table darkTable, BitsOut out) {
            this.settings = settings;
            this.picture = picture;
            this.whiteTable = whiteTable;
            this.darkTable = darkTable;
            this.out = out;
        }

        void sendAll() {
            out.restart();
            for (int row = 0; row < picture.rows; row++) {
                boolean plain = settings.kind == ALL_PLAIN || settings.kind == MIXED && row % 4 == 0;
                sendStart(plain);
                if (plain) {
                    sendPlain(row);
                } else {
                    sendDrawn(row);
                }
            }
            sendEnd();
        }

        private void sendStart(boolean plain) {
            if (!settings.hasMarks()) {
                if (settings.aligned) {
                    out.alignFor(0);
                }
                return;
            }
            if (settings.aligned) {
                out.alignFor(MARK_BITS);
            }
            sendMark(plain);
        }

        private void sendMark(boolean plain) {
            out.send(MARK, MARK_BITS);
            if (settings.kind == MIXED) {
                out.send(plain ? 1 : 0, 1);
            }
        }

        private void sendEnd() {
            if (settings.kind == ALL_DRAWN && settings.aligned) {
                out.alignFor(0);
            }
            int marks = settings.hasMarks() ? END_MARKS : 0;
            if (settings.kind == ALL_DRAWN) {
                marks = END_MARKS_DRAWN;
            }
            for (int i = 0; i < marks; i++) {
                sendMark(true);
            }
            out.alignFor(0);
        }

        private void sendPlain(int row) {
            int x = 0;
            boolean dark = false;
            for (int run = 0; x < picture.columns && run <= picture.columns; run++) {
                int end = picture.nextOf(row, x, !dark);
                sendRun(end - x, dark);
                x = end;
                dark = !dark;
            }
        }

        private void sendDrawn(int row) {
            int a = 0;
            boolean dark = false;
            for (int step = 0; a < picture.columns && step <= picture.columns; step++) {
                int b = picture.changeTo(row - 1, step == 0 ? a : a + 1, !dark);
                int c = picture.nextOf(row - 1, b, dark);
                int e = picture.nextOf(row, a, !dark);
                if (c < e) {
                    sendWay(PASS);
                    a = c;
                } else if (e >= b - FARTHEST && e <= b + FARTHEST) {
                    sendWay(e - b + FARTHEST);
                    a = e;
                    dark = !dark;
                } else {
                    int end = picture.nextOf(row, e, dark);
                    sendWay(ACROSS);
                    sendRun(e - a, dark);
                    sendRun(end - e, !dark);
                    a = end;
                }
            }
        }

        private void sendWay(int way) {
            if (way >= 0 && way < WAY_CODES.length && way < WAY_BITS.length) {
                out.send(WAY_CODES[way], WAY_BITS[way]);
            }
        }

        private void sendRun(int length, boolean dark) {
            Table table = dark ? darkTable : whiteTable;
            if (length >= TERMS) {
                int make = Table.slotOfMake(length);
                out.send(table.codeOf(make), table.bitsOf(make));
            }
            int term = length % TERMS;
            out.send(table.codeOf(term), table.bitsOf(term));
        }
    }

    /** Reads the bytes collected, row by row, into the picture. */
    private static final class Receiver {
        int damaged;
        private final Settings settings;
        private final Picture picture;
        private final Table whiteTable;
        private final Table darkTable;
        private final BitsIn in;
        // Of the row that is being read: its way, up to where it stands, whether it was cut.
        private boolean isPlain;
        private int reached;
        private boolean isCut;

        Receiver(Settings settings, Picture picture, Table whiteTable, Table darkTable, BitsIn in) {
            this.settings = settings;
            this.picture = picture;
            this.whiteTable = whiteTable;
            this.darkTable = darkTable;
            this.in = in;
        }

        void begin() {
            in.restart();
            picture.rows = 0;
            damaged = 0;
        }

        /** Passes what stands before a row; whether there may be one. */
        boolean reachRow() {
            boolean marks = settings.hasMarks();
            if (marks && !in.passMark()) {
                return false;
            }
            isPlain = settings.kind == ALL_PLAIN;
            if (settings.kind == MIXED) {
                if (in.left() < 1) {
                    return false;
                }
                isPlain = in.peek(1) == 1;
                in.pass(1);
            }
            if (!marks && settings.aligned) {
                in.passToByte();
            }
            boolean mayEndHere = marks || settings.kind == ALL_DRAWN;
            return !(mayEndHere && in.isMarkNext());
        }

        /** Reads a row behind the last one of the picture; whether reading goes on behind it. */
        boolean readRow() {
            int row = picture.rows;
            picture.whiten(row);
            reached = 0;
            isCut = false;
            int state = isPlain ? readPlain(row) : readDrawn(row);
            if (state == ENDED) {
                return false;
            }
            if (state == DAMAGED) {
                damaged++;
                if (settings.repeatDamaged) {
                    picture.copyAbove(row);
                } else {
                    picture.whiten(row);
                }
            }
            picture.keep(state);
            return state != DAMAGED || settings.hasMarks() && damaged < MOST_DAMAGED;
        }

        private int readPlain(int row) {
            boolean dark = false;
            for (int step = 0; reached < picture.columns && step <= MOST_BITS; step++) {
                int length = readRun(dark);
                if (length < 0) {
                    return plainStateWithout(length);
                }
                layTo(row, reached + length, dark);
                dark = !dark;
            }
            return isCut ? CUT : SOUND;
        }

        /** What a plain row is where no run came. */
        private int plainStateWithout(int fault) {
            if (fault == ENDED) {
                return ENDED;
            }
            if (fault == NONE && settings.hasMarks()) {
                if (in.isMarkNext()) {
                    return SHORT;
                }
                if (in.zeros() == in.left()) {
                    return ENDED;
                }
            }
            return DAMAGED;
        }

        private int readDrawn(int row) {
            boolean dark = false;
            for (int step = 0; reached < picture.columns && step <= MOST_BITS; step++) {
                int way = readWay();
                int fault = way == ACROSS ? layAcross(row, dark) : way;
                if (fault < 0) {
                    return fault == ENDED ? ENDED : DAMAGED;
                }
                if (way != ACROSS) {
                    int b = picture.changeTo(row - 1, step == 0 ? reached : reached + 1, !dark);
                    if (way == PASS) {
                        layTo(row, picture.nextOf(row - 1, b, dark), dark);
                    } else {
                        int e = b + way - FARTHEST;
                        if (e < reached || e == reached && step > 0) {
                            return DAMAGED;
                        }
                        layTo(row, e, dark);
                        dark = !dark;
                    }
                }
            }
            return isCut ? CUT : SOUND;
        }

        /** Lays the two runs of an ACROSS; what was wrong with one, or 0. */
        private int layAcross(int row, boolean dark) {
            int first = readRun(dark);
            if (first < 0) {
                return first;
            }
            layTo(row, reached + first, dark);
            int second = readRun(!dark);
            if (second < 0) {
                return second;
            }
            layTo(row, reached + second, !dark);
            return 0;
        }

        private void layTo(int row, int end, boolean dark) {
            if (end > picture.columns) {
                isCut = true;
            }
            int to = Math.min(end, picture.columns);
            picture.paint(row, reached, to, dark);
            reached = to;
        }

        /** Which of the nine ways comes, NONE or ENDED. */
        private int readWay() {
            for (int way = 0; way < WAY_CODES.length && way < WAY_BITS.length; way++) {
                int bits = WAY_BITS[way];
                if (bits <= in.left() && in.peek(bits) == WAY_CODES[way]) {
                    in.pass(bits);
                    return way;
                }
            }
            return in.left() < LONGEST_WAY ? ENDED : NONE;
        }

        /** A run, its makes and its term together; NONE, NONE_BEHIND_MAKE or ENDED. */
        private int readRun(boolean dark) {
            Table table = dark ? darkTable : whiteTable;
            int length = 0;
            boolean made = false;
            for (int step = 0; step <= MOST_BITS; step++) {
                int slot = table.slotBeginning(in.peek(LONGEST_CODE));
                int bits = table.bitsOf(slot);
                if (slot < 0 || bits > in.left()) {
                    if (in.left() < LONGEST_CODE) {
                        return ENDED;
                    }
                    return made ? NONE_BEHIND_MAKE : NONE;
                }
                in.pass(bits);
                length += Table.runOf(slot);
                if (slot < TERMS) {
                    return length;
                }
                made = true;
            }
            return ENDED;
        }
    }
}
