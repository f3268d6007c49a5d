/** The sentences of promises 1 to 17, and those of "Terms" on calls that throw. */
public final class CallEdgesTest extends Edges {
    public static void main(String[] args) {
        run(CallEdgesTest.class);
    }

    // ---- calls that throw ----

    /** Rows in each state, bytes written and collected, bits passed, damaged rows: enough to lose. */
    private static FaxFilter full() {
        FaxFilter filter = drawn(0, 10, ends(0, 1), ends(9, 10));
        filter.write();
        filter.setting(0, true);
        String bits = bytesOf(MARK + white(10) + MARK + white(11) + MARK + white(8) + MARK + "00001" + marks(2));
        for (int i = 0; i < bits.length(); i += 8) {
            filter.add(Integer.parseInt(bits.substring(i, i + 8), 2), 1);
        }
        filter.read(24);
        filter.put(0, 0, 3, true);
        return filter;
    }

    @Sentence("A call that throws changes nothing;")
    void throwsAndChangesNothing() {
        FaxFilter filter = full();
        refuses(filter, "told(7)", Checks.IAE, () -> filter.told(7));
        refuses(filter, "setting(4)", Checks.IAE, () -> filter.setting(4, true));
        refuses(filter, "setting(-1)", Checks.IAE, () -> filter.setting(-1, false));
        refuses(filter, "read(-1)", Checks.IAE, () -> filter.read(-1));
        refuses(filter, "read(25)", Checks.IAE, () -> filter.read(25));
        refuses(filter, "state(4)", Checks.AIOOBE, () -> filter.state(4));
        refuses(filter, "put, the row", Checks.AIOOBE, () -> filter.put(4, 0, 1, true));
        refuses(filter, "put, the places", Checks.IAE, () -> filter.put(3, 0, 11, true));
        refuses(filter, "put of no places", Checks.IAE, () -> filter.put(3, 4, 4, true));
        refuses(filter, "bit", Checks.AIOOBE, () -> filter.bit(0, 10));
        refuses(filter, "run", Checks.AIOOBE, () -> filter.run(0, 3));
        refuses(filter, "runs", Checks.AIOOBE, () -> filter.runs(-1));
        refuses(filter, "octet", Checks.AIOOBE, () -> filter.octet(filter.told(4)));
        refuses(filter, "code", Checks.IAE, () -> filter.code(true, 65));
        while (filter.told(2) < 24) {
            filter.row();
        }
        refuses(filter, "row", Checks.UOE, () -> filter.row());
    }

    @Sentence("where several exceptions that a call names fit, it is the one that it names first.")
    void firstException() {
        FaxFilter filter = filter(0, 10);
        filter.row();
        for (int row : new int[] {-1, 1, 24, Integer.MIN_VALUE, Integer.MAX_VALUE}) {
            for (int[] places : new int[][] {{-1, 5}, {5, 5}, {6, 5}, {0, 11}, {10, 11}}) {
                throwsIndex("no row " + row + " and no such places", () -> filter.put(row, places[0], places[1], true));
            }
        }
        throwsArgument("the row is there, the places not", () -> filter.put(0, 5, 5, true));
    }

    @Sentence("ArrayIndexOutOfBoundsException: there is no such row, or place, or run of it, or byte.")
    void indexException() {
        FaxFilter filter = filter(0, 10);
        filter.row();
        filter.row();
        filter.write();
        for (int row : join(FAR, -1, 2, 3, 23, 24)) {
            throwsIndex("state of row " + row, () -> filter.state(row));
            throwsIndex("bit of row " + row, () -> filter.bit(row, 0));
            throwsIndex("run of row " + row, () -> filter.run(row, 0));
            throwsIndex("runs of row " + row, () -> filter.runs(row));
            throwsIndex("put into row " + row, () -> filter.put(row, 0, 1, true));
            throwsIndex("run " + row, () -> filter.run(1, row));
            throwsIndex("octet " + row, () -> filter.octet(row));
        }
        for (int x : join(FAR, -1, 10, 11, 63, 64)) {
            throwsIndex("bit at place " + x, () -> filter.bit(1, x));
        }
        throwsIndex("run behind the last", () -> filter.run(1, 1));
    }

    // ---- promise 1 ----

    @Sentence("`FaxFilter(int kind, int columns)`: A picture of no rows of a kind (0 .. 2;")
    void newKinds() {
        for (int kind = 0; kind <= 2; kind++) {
            FaxFilter filter = new FaxFilter(kind, 10);
            checks.same("kind", filter.told(0), kind);
            checks.same("rows of kind " + kind, filter.told(2), 0);
            throwsIndex("row 0 of kind " + kind, () -> filter.runs(0));
            checks.same("first row of kind " + kind, filter.row(), 0);
        }
    }

    @Sentence("what is less counts as 0, what is more as 2)")
    void newKindsCounted() {
        for (int kind : new int[] {-1, -2, Integer.MIN_VALUE}) {
            FaxFilter filter = new FaxFilter(kind, 10);
            checks.same("kind " + kind, filter.told(0), 0);
            filter.row();
            writes(filter, white(10));
        }
        for (int kind : new int[] {3, 4, Integer.MAX_VALUE}) {
            FaxFilter filter = new FaxFilter(kind, 10);
            checks.same("kind " + kind, filter.told(0), 2);
            filter.row();
            writes(filter, "1" + marks(2));
        }
    }

    @Sentence("and columns (likewise 1, 700);")
    void newColumns() {
        for (int columns : new int[] {1, 0, -1, Integer.MIN_VALUE}) {
            FaxFilter filter = new FaxFilter(0, columns);
            checks.same("columns " + columns, filter.told(1), 1);
            filter.row();
            writes(filter, white(1));
            throwsIndex("place 1 of " + columns, () -> filter.bit(0, 1));
        }
        for (int columns : new int[] {700, 701, Integer.MAX_VALUE}) {
            FaxFilter filter = new FaxFilter(0, columns);
            checks.same("columns " + columns, filter.told(1), 700);
            filter.row();
            writes(filter, white(700));
            throwsIndex("place 700 of " + columns, () -> filter.bit(0, 700));
        }
        checks.same("columns 2", new FaxFilter(0, 2).told(1), 2);
        checks.same("columns 699", new FaxFilter(0, 699).told(1), 699);
    }

    @Sentence("no bytes, no settings.")
    void newWithoutBytesAndSettings() {
        FaxFilter filter = new FaxFilter(0, 10);
        checks.same("bytes collected", filter.told(3), 0);
        checks.same("bytes written", filter.told(4), 0);
        throwsIndex("byte 0", () -> filter.octet(0));
        checks.same("bits passed", filter.told(5), 0);
        checks.same("damaged rows", filter.told(6), 0);
        checks.same("nothing to read", filter.read(24), 0);
        filter.row();
        filter.row();
        // Setting 0 would put marks there, 1 bits 0, 2 a bit 1, 3 the row above for the damaged one.
        writes(filter, white(10) + white(10));
        checks.same("setting 2", filter.bit(0, 0), 0);
        reads(filter, white(9) + dark(1) + zeros(16), "9 1/0, 10/3", 8, 1);
    }

    // ---- promise 2 ----

    @Sentence("`int told(int what) throws IllegalArgumentException`: The kind (what = 0), columns (1), rows (2),")
    void toldRows() {
        FaxFilter filter = filter(1, 37);
        checks.same("kind", filter.told(0), 1);
        checks.same("columns", filter.told(1), 37);
        for (int rows = 0; rows < 24; rows++) {
            checks.same("rows", filter.told(2), rows);
            filter.row();
        }
        checks.same("24 rows", filter.told(2), 24);
        checks.same("no more", Checks.answer(() -> filter.row()), Checks.UOE);
        checks.same("still 24 rows", filter.told(2), 24);
        filter.clear();
        checks.same("cleared", filter.told(2), 0);
    }

    @Sentence("bytes collected (3), bytes written (4),")
    void toldBytes() {
        FaxFilter filter = filter(0, 700);
        for (int i = 1; i <= 50; i++) {
            filter.add(0, 8);
            checks.same("bytes collected", filter.told(3), 8 * i);
        }
        // White 1 and dark 1 by turns: 9 bits a pair.
        for (int row = 0; row < 4; row++) {
            filter.row();
            for (int x = 1; x < 180; x += 2) {
                filter.put(row, x, x + 1, true);
            }
        }
        int bits = 4 * (90 * 9 + white(520).length());
        checks.same("bytes that write answers", filter.write(), (bits + 7) / 8);
        checks.same("more than 400 written", filter.told(4), (bits + 7) / 8);
        checks.same("collected stay", filter.told(3), 400);
        filter.clear();
        filter.drop();
        checks.same("none collected", filter.told(3), 0);
        checks.same("written stay", filter.told(4), (bits + 7) / 8);
        filter.write();
        checks.same("none written", filter.told(4), 0);
    }

    @Sentence("how many bits were passed by the last reading (5;")
    void toldPassed() {
        FaxFilter filter = filter(0, 10);
        reads(filter, white(10) + white(10) + zeros(6), "10/0, 10/0", 10, 0);
        filter.clear();
        filter.drop();
        checks.same("told of the last reading", filter.told(5), 10);
        Checks.answer(() -> filter.read(25));
        checks.same("a reading that throws is none", filter.told(5), 10);
        filter.read(24);
        checks.same("of no bytes", filter.told(5), 0);
        // Up to the last of 3200 bits: a mark, and white 640.
        FaxFilter all = filter(0, 640);
        for (int i = 0; i < 49; i++) {
            all.add(0, 8);
        }
        all.add(0x3F13_0100_0000_0000L, 8);
        all.setting(0, true);
        checks.same("the last bits", all.read(24), 1);
        checks.same("bits passed", all.told(5), 3200);
    }

    @Sentence("those of codes that were read, also of a row that is not there;")
    void toldPassedOfNoRow() {
        FaxFilter filter = filter(0, 10);
        // White 2, then less than a code.
        reads(filter, white(2) + "0000", "", 4, 0);
        // A make is a code.
        reads(filter, white(10) + "01111 000000", "10/0", 10, 0);
        FaxFilter drawn = filter(2, 20);
        // The seven, PASS and ACROSS, each before the bits end.
        reads(drawn, FIRST + "0001", "5 5 10/0", 16, 0);
        reads(drawn, FIRST + "0001 001 00000", "5 5 10/0", 19, 0);
        reads(drawn, FIRST + "0001 001 1111 0", "5 5 10/0", 23, 0);
        reads(drawn, FIRST + "011 0", "5 5 10/0", 15, 0);
    }

    @Sentence("all, where a mark was looked for and there is none),")
    void toldPassedWithoutMark() {
        FaxFilter filter = filter(0, 10, 0);
        reads(filter, "1111 1111", "", 8, 0);
        reads(filter, zeros(16), "", 16, 0);
        reads(filter, MARK + white(10) + "1111 000", "10/0", 24, 0);
        // Not where no row more was told, so that none was looked for.
        readsSome(1, filter, MARK + white(10) + "1111 000", "10/0", 17);
        FaxFilter mixed = filter(1, 10);
        reads(mixed, MARK + "1" + white(10) + zeros(6), "10/0", 24, 0);
    }

    @Sentence("damaged rows of the last reading (6).")
    void toldDamaged() {
        FaxFilter filter = filter(0, 10, 0);
        for (int count = 0; count <= 6; count++) {
            String bits = (MARK + "00001 111").repeat(count) + marks(2);
            filter.drop();
            collect(filter, bits);
            filter.read(24);
            checks.same("damaged rows of " + count, filter.told(6), Math.min(5, count));
        }
        // Those that are cut or short are none.
        reads(filter, MARK + white(11) + MARK + white(8) + MARK + "00001" + marks(2), "10/1, 10/2, 10/3", 63, 1);
        filter.put(2, 0, 1, true);
        filter.clear();
        checks.same("told of the last reading", filter.told(6), 1);
        filter.read(0);
        checks.same("none of no reading", filter.told(6), 0);
    }

    @Sentence("IllegalArgumentException for another what.")
    void toldAnother() {
        FaxFilter filter = full();
        for (int what : join(FAR, -1, 7, 8, 256, 1 << 16)) {
            refuses(filter, "told(" + what + ")", Checks.IAE, () -> filter.told(what));
        }
        for (int what : join(FAR, -1, 4, 5, 256, 1 << 16)) {
            refuses(filter, "setting(" + what + ", true)", Checks.IAE, () -> filter.setting(what, true));
            refuses(filter, "setting(" + what + ", false)", Checks.IAE, () -> filter.setting(what, false));
        }
    }

    // ---- promise 3 ----

    @Sentence("`void setting(int what, boolean on) throws IllegalArgumentException`: A setting: 0 MARKS, 1 ALIGNED,")
    void settingsOnAndOff() {
        FaxFilter filter = drawn(0, 10, ends(), ends());
        filter.setting(0, true);
        filter.setting(0, true);
        writes(filter, (MARK + white(10)).repeat(2) + marks(6));
        filter.setting(1, true);
        writes(filter, zeros(4) + MARK + white(10) + zeros(7) + MARK + white(10) + marks(6));
        filter.setting(0, false);
        writes(filter, white(10) + zeros(3) + white(10));
        filter.setting(1, false);
        filter.setting(1, false);
        writes(filter, white(10) + white(10));
    }

    @Sentence("2 dark is 0 (what bit() says), (that alone;)")
    void settingDarkIsZero() {
        FaxFilter filter = drawn(0, 10, ends(0, 3));
        String bits = white(0) + dark(3) + white(7);
        filter.setting(2, true);
        checks.same("dark", filter.bit(0, 0), 0);
        checks.same("white", filter.bit(0, 3), 1);
        checks.same("runs stay", picture(filter), "0 3 7/0");
        sendsAndReads(filter, bits);
        filter.put(0, 0, 1, false);
        checks.same("put white", filter.bit(0, 0), 1);
        filter.row();
        checks.same("a new row is white", filter.bit(1, 9), 1);
        reads(filter, white(9) + dark(1) + zeros(16), "9 1/0, 10/3", 8, 1);
        checks.same("a damaged row is white", filter.bit(1, 9), 1);
        filter.setting(2, false);
        checks.same("dark again", filter.bit(0, 9), 1);
        checks.same("white again", filter.bit(0, 0), 0);
    }

    @Sentence("3 damaged rows as the row above.")
    void settingDamagedAsAbove() {
        FaxFilter filter = filter(0, 10, 0);
        String bits = MARK + white(9) + dark(1) + MARK + "00001" + marks(2);
        reads(filter, bits, "9 1/0, 10/3", 49, 1);
        filter.setting(3, true);
        reads(filter, bits, "9 1/0, 9 1/3", 49, 1);
        filter.setting(3, false);
        reads(filter, bits, "9 1/0, 10/3", 49, 1);
    }

    // ---- promise 4 ----

    @Sentence("`boolean add(long w, int n)`: The n lowest bytes of w come behind those that were collected, the lowest first.")
    void addLowestFirst() {
        for (int n = 1; n <= 8; n++) {
            FaxFilter filter = filter(0, 10, 0);
            // Bytes 0, but for the n-th: a mark ends there, if that byte was taken, and is the n-th.
            checks.same("add " + n, filter.add(1L << 8 * n - 8, n) ? 1 : 0, 1);
            checks.same("collected", filter.told(3), n);
            checks.same("add a mark", filter.add(0x0100L, 2) ? 1 : 0, 1);
            filter.read(1);
            checks.same("up to the first mark, " + n, filter.told(5), n < 2 ? 24 : 8 * n);
        }
        FaxFilter filter = filter(0, 10);
        // White 10, 10: 10001 10001 000000; what is above the two lowest bytes does not count.
        checks.same("add", filter.add(0xFFFF_FFFF_FFFF_408CL, 2) ? 1 : 0, 1);
        checks.same("rows", filter.read(24), 2);
        checks.same("behind", filter.add(-1L, 1) ? 1 : 0, 1);
        filter.read(24);
        checks.same("not before", filter.told(5), 10);
        FaxFilter last = filter(0, 2);
        checks.same("the sign, too", last.add(Long.MIN_VALUE | 0x70FF_FFFF_FFFF_FFFFL, 8) ? 1 : 0, 1);
        checks.same("fifteen rows of 1111", last.read(24), 15);
    }

    @Sentence("False, changing nothing, when n is not 1 .. 8,")
    void addOfNoSuchNumber() {
        FaxFilter filter = full();
        String before = held(filter);
        for (int n : join(FAR, -1, 0, 9, 10, 64, 256, 257)) {
            checks.same("add of " + n, filter.add(-1L, n) ? 1 : 0, 0);
            checks.same("add of " + n + " changes nothing", held(filter), before);
        }
        checks.same("add of 1", filter.add(-1L, 1) ? 1 : 0, 1);
        checks.same("add of 8", filter.add(-1L, 8) ? 1 : 0, 1);
    }

    @Sentence("or there would be more than 400.")
    void addBeyondMost() {
        for (int room = 0; room <= 8; room++) {
            FaxFilter filter = filter(0, 10);
            for (int i = 0; i < 49; i++) {
                filter.add(0, 8);
            }
            if (room < 8) {
                filter.add(0, 8 - room);
            }
            for (int n = 8; n > room; n--) {
                checks.same("add " + n + " where are " + room, filter.add(-1L, n) ? 1 : 0, 0);
                checks.same("nothing changed", filter.told(3), 400 - room);
            }
            checks.same("add " + room, filter.add(0, room) ? 1 : 0, room == 0 ? 0 : 1);
            checks.same("full", filter.told(3), 400);
        }
    }

    // ---- promise 5 ----

    @Sentence("`int take()`: The bytes collected are those that were written last (the first 400 of them): how many.")
    void takeTheFirst() {
        // Three rows of 100 pairs of white 1, dark 1 have 916 bits each; the fourth row makes the rest.
        int[][] cases = {{47, 399, 4}, {48, 400, 4}, {49, 401, 3}, {100, 458, 3}};
        for (int[] due : cases) {
            FaxFilter filter = filter(0, 700);
            for (int row = 0; row < 4; row++) {
                filter.row();
                for (int pair = 0; pair < (row < 3 ? 100 : due[0]); pair++) {
                    filter.put(row, 2 * pair + 1, 2 * pair + 2, true);
                }
            }
            checks.same("written", filter.write(), due[1]);
            filter.add(-1L, 8);
            checks.same("taken of " + due[1], filter.take(), Math.min(400, due[1]));
            checks.same("collected of " + due[1], filter.told(3), Math.min(400, due[1]));
            checks.same("written stay", filter.told(4), due[1]);
            checks.same("whole rows of " + due[1], filter.read(24), due[2]);
            checks.same("taken again", filter.take(), Math.min(400, due[1]));
        }
        FaxFilter filter = filter(0, 10);
        filter.row();
        filter.write();
        filter.put(0, 9, 10, true);
        filter.take();
        filter.read(24);
        checks.same("as they were written", picture(filter), "10/0");
    }

    @Sentence("(None, if nothing was written.)")
    void takeNothing() {
        FaxFilter filter = filter(0, 10);
        checks.same("of a new object", filter.take(), 0);
        filter.add(-1L, 8);
        checks.same("before a writing", filter.take(), 0);
        checks.same("none collected", filter.told(3), 0);
        filter.row();
        filter.write();
        checks.same("one", filter.take(), 1);
        filter.clear();
        filter.write();
        checks.same("of a writing of nothing", filter.take(), 0);
        checks.same("none collected", filter.told(3), 0);
    }

    // ---- promise 6 ----

    @Sentence("`void drop()`: There are no bytes collected.")
    void dropAll() {
        FaxFilter filter = filter(0, 10);
        filter.drop();
        checks.same("of none", filter.told(3), 0);
        for (int i = 0; i < 50; i++) {
            filter.add(-1L, 8);
        }
        checks.same("full", filter.add(0, 1) ? 1 : 0, 0);
        filter.drop();
        checks.same("of 400", filter.told(3), 0);
        checks.same("nothing to read", filter.read(24), 0);
        checks.same("nothing to pass", filter.told(5), 0);
        for (int i = 1; i <= 50; i++) {
            checks.same("as many again", filter.add(0, 8) ? 1 : 0, 1);
        }
        filter.row();
        filter.write();
        filter.drop();
        checks.same("rows stay", filter.told(2), 1);
        checks.same("written stay", filter.told(4), 1);
    }

    // ---- promise 7 ----

    @Sentence("`int read(int most) throws IllegalArgumentException`: READS the bytes collected (they stay): how many rows, which are the picture then.")
    void readIsThePicture() {
        FaxFilter filter = drawn(0, 10, ends(0, 10), ends(0, 10), ends(0, 10));
        collect(filter, white(9) + dark(1) + white(10));
        checks.same("rows read", filter.read(24), 2);
        checks.same("the picture", picture(filter), "9 1/0, 10/0");
        checks.same("bytes stay", filter.told(3), 2);
        throwsIndex("row 2 is gone", () -> filter.state(2));
        checks.same("a row behind them", filter.row(), 2);
        checks.same("is white", filter.runs(2), 1);
        checks.same("read again", filter.read(24), 2);
        filter.drop();
        checks.same("read nothing", filter.read(24), 0);
        checks.same("no picture", filter.told(2), 0);
    }

    @Sentence("(With most 0 none.)")
    void readNone() {
        for (int kind = 0; kind <= 2; kind++) {
            FaxFilter filter = filter(kind, 10);
            filter.row();
            filter.write();
            filter.take();
            checks.same("none", filter.read(0), 0);
            checks.same("no rows", filter.told(2), 0);
            checks.same("no bits", filter.told(5), 0);
            checks.same("bytes stay", filter.told(3), filter.told(4));
            checks.same("one", filter.read(1), 1);
        }
    }

    @Sentence("IllegalArgumentException when most is not 0 .. 24.")
    void readTooMany() {
        FaxFilter filter = full();
        for (int most : join(FAR, -1, 25, 26, 256)) {
            refuses(filter, "read(" + most + ")", Checks.IAE, () -> filter.read(most));
        }
        checks.same("read(24)", filter.read(24), 4);
        checks.same("read(0)", filter.read(0), 0);
    }

    // ---- promise 8 ----

    @Sentence("`int state(int row) throws ArrayIndexOutOfBoundsException`: A row's state as it was read: 0 sound, 1 .. 3 (the greatest one that fits);")
    void states() {
        FaxFilter filter = filter(0, 10, 0);
        reads(filter, MARK + white(10) + MARK + white(11) + MARK + white(8) + MARK + "00001" + marks(2),
            "10/0, 10/1, 10/2, 10/3", 80, 1);
        // Cut in an ACROSS, and damaged behind that.
        readsBelow("001" + white(21) + MARK, "20/3", 10);
        // A row's state is not that of the one that was there before.
        reads(filter, MARK + white(10) + marks(2), "10/0", 29, 0);
        filter.row();
        checks.same("a new row where a cut one was", filter.state(1), 0);
    }

    @Sentence("0 for one into which places were put since.")
    void statesAfterPut() {
        for (boolean dark : new boolean[] {false, true}) {
            FaxFilter filter = filter(0, 10, 0);
            String bits = MARK + white(11) + MARK + white(8) + MARK + "00001" + marks(2);
            reads(filter, bits, "10/1, 10/2, 10/3", 63, 1);
            for (int row = 0; row < 3; row++) {
                int at = row;
                Checks.answer(() -> filter.put(at, 0, 11, dark));
                checks.same("a put that throws", filter.state(row), row + 1);
                filter.put(row, 4, 5, dark);
                checks.same("a put", filter.state(row), 0);
            }
            filter.read(24);
            filter.put(1, 0, 1, dark);
            checks.same("that row alone", filter.state(0) + " " + filter.state(1) + " " + filter.state(2), "1 0 3");
        }
    }

    @Sentence("0 for one into which places were put since. ArrayIndexOutOfBoundsException.")
    void stateOfNoRow() {
        FaxFilter filter = filter(0, 10);
        for (int rows = 0; rows <= 24; rows++) {
            for (int row : join(FAR, -1, rows, rows + 1)) {
                throwsIndex("state of row " + row + " of " + rows, () -> filter.state(row));
            }
            if (rows < 24) {
                filter.row();
                checks.same("the last row", filter.state(rows), 0);
            }
        }
    }

    // ---- promise 9 ----

    @Sentence("`int row() throws UnsupportedOperationException`: A white row more: its number.")
    void rowMore() {
        FaxFilter filter = filter(0, 700);
        for (int round = 0; round < 2; round++) {
            for (int row = 0; row < 24; row++) {
                checks.same("number", filter.row(), row);
                checks.same("white", filter.runs(row), 1);
                filter.put(row, 0, 700, true);
            }
            filter.clear();
        }
    }

    @Sentence("UnsupportedOperationException when there are 24.")
    void rowTooMany() {
        FaxFilter filter = filter(0, 10);
        collect(filter, white(10).repeat(24));
        checks.same("24 read", filter.read(24), 24);
        refuses(filter, "row 24", Checks.UOE, () -> filter.row());
        refuses(filter, "once more", Checks.UOE, () -> filter.row());
        checks.same("23 read", filter.read(23), 23);
        checks.same("the last one", filter.row(), 23);
        refuses(filter, "row 24", Checks.UOE, () -> filter.row());
    }

    // ---- promise 10 ----

    @Sentence("`void clear()`: No rows are there. (Bytes stay.)")
    void clearRows() {
        FaxFilter filter = filter(0, 10);
        filter.clear();
        checks.same("of none", filter.told(2), 0);
        for (int row = 0; row < 24; row++) {
            filter.row();
        }
        filter.write();
        filter.take();
        filter.clear();
        checks.same("of 24", filter.told(2), 0);
        throwsIndex("row 0", () -> filter.runs(0));
        checks.same("written stay", filter.told(4), 15);
        checks.same("collected stay", filter.told(3), 15);
        checks.same("byte 14", filter.octet(14), 0b00110001);
        checks.same("row 0 again", filter.row(), 0);
        checks.same("read again", filter.read(24), 24);
    }

    // ---- promise 11 ----

    @Sentence("`void put(int row, int x, int to, boolean dark) throws ArrayIndexOutOfBoundsException, IllegalArgumentException`: Places from x on, up to before to (1 .. columns), of a row are dark, or white.")
    void putPlaces() {
        FaxFilter filter = drawn(0, 130, ends(), ends());
        int[][] puts = {{0, 1}, {129, 130}, {63, 64}, {64, 65}, {63, 65}, {0, 64}, {64, 128}, {128, 130}, {1, 129},
            {0, 130}};
        for (int[] put : puts) {
            filter.put(1, put[0], put[1], true);
            String due = put[0] + " " + (put[1] - put[0]) + (put[1] < 130 ? " " + (130 - put[1]) : "");
            checks.same("dark " + put[0] + " " + put[1], picture(filter), "130/0, " + due + "/0");
            filter.put(1, 0, 130, true);
            filter.put(1, put[0], put[1], false);
            StringBuilder text = new StringBuilder(put[0] == 0 ? "" : "0 " + put[0] + " ");
            text.append(put[1] - put[0]).append(put[1] < 130 ? " " + (130 - put[1]) : "");
            checks.same("white " + put[0] + " " + put[1], picture(filter), "130/0, " + text + "/0");
            filter.put(1, 0, 130, false);
        }
    }

    @Sentence("ArrayIndexOutOfBoundsException (the row);")
    void putIntoNoRow() {
        FaxFilter filter = filter(0, 10);
        refuses(filter, "into row 0 of none", Checks.AIOOBE, () -> filter.put(0, 0, 1, true));
        filter.row();
        for (int row : join(FAR, -1, 1, 2, 23, 24)) {
            refuses(filter, "into row " + row, Checks.AIOOBE, () -> filter.put(row, 0, 1, true));
        }
        while (filter.told(2) < 24) {
            filter.row();
        }
        refuses(filter, "into row 24 of 24", Checks.AIOOBE, () -> filter.put(24, 0, 1, true));
        filter.put(23, 0, 1, true);
        checks.same("the last row", filter.bit(23, 0), 1);
    }

    @Sentence("IllegalArgumentException when not 0 <= x < to <= columns.")
    void putNoPlaces() {
        FaxFilter filter = drawn(0, 10, ends(2, 4));
        int[][] wrong = {{-1, 1}, {-1, 0}, {0, 0}, {9, 9}, {10, 10}, {5, 4}, {0, 11}, {9, 11}, {10, 11}, {11, 12},
            {Integer.MIN_VALUE, 1}, {Integer.MIN_VALUE, Integer.MIN_VALUE}, {Integer.MIN_VALUE, Integer.MAX_VALUE},
            {0, Integer.MAX_VALUE}, {0, Integer.MIN_VALUE}, {Integer.MAX_VALUE, Integer.MIN_VALUE},
            {Integer.MAX_VALUE, Integer.MAX_VALUE}};
        for (int[] at : wrong) {
            refuses(filter, "put " + at[0] + " " + at[1], Checks.IAE, () -> filter.put(0, at[0], at[1], true));
            refuses(filter, "put " + at[0] + " " + at[1], Checks.IAE, () -> filter.put(0, at[0], at[1], false));
        }
        filter.put(0, 0, 10, true);
        checks.same("all of them", picture(filter), "0 10/0");
    }

    // ---- promise 12 ----

    @Sentence("`int bit(int row, int x) throws ArrayIndexOutOfBoundsException`: Whether a place is dark: 1, or 0 (with setting 2 the other way round).")
    void bits() {
        FaxFilter filter = drawn(0, 130, ends(0, 1, 63, 65, 129, 130));
        for (int x = 0; x < 130; x++) {
            int due = x == 0 || x == 63 || x == 64 || x == 129 ? 1 : 0;
            checks.same("place " + x, filter.bit(0, x), due);
        }
        filter.setting(2, true);
        for (int x = 0; x < 130; x++) {
            int due = x == 0 || x == 63 || x == 64 || x == 129 ? 0 : 1;
            checks.same("place " + x + " the other way round", filter.bit(0, x), due);
        }
    }

    @Sentence("Whether a place is dark: 1, or 0 (with setting 2 the other way round). ArrayIndexOutOfBoundsException.")
    void bitOfNoPlace() {
        for (int columns : new int[] {1, 63, 64, 65, 700}) {
            FaxFilter filter = filter(0, columns);
            throwsIndex("of no row", () -> filter.bit(0, 0));
            filter.row();
            filter.row();
            for (int x : join(FAR, -1, columns, columns + 1, 64 * columns)) {
                throwsIndex("place " + x + " of " + columns, () -> filter.bit(0, x));
            }
            for (int row : join(FAR, -1, 2, 24)) {
                throwsIndex("row " + row, () -> filter.bit(row, columns - 1));
            }
            checks.same("the last place", filter.bit(1, columns - 1), 0);
            filter.clear();
            throwsIndex("of a row that was", () -> filter.bit(0, 0));
        }
    }

    // ---- promises 13 and 14 ----

    @Sentence("`int run(int row, int i) throws ArrayIndexOutOfBoundsException`: Run i of a row. ArrayIndexOutOfBoundsException.")
    void runOfRow() {
        FaxFilter filter = filter(0, 10);
        throwsIndex("of no row", () -> filter.run(0, 0));
        filter.row();
        filter.row();
        checks.same("white", filter.run(0, 0), 10);
        throwsIndex("white, run 1", () -> filter.run(0, 1));
        filter.put(0, 0, 10, true);
        checks.same("dark, the first", filter.run(0, 0), 0);
        checks.same("dark, the last", filter.run(0, 1), 10);
        throwsIndex("dark, run 2", () -> filter.run(0, 2));
        filter.put(0, 4, 9, false);
        checks.same("the first", filter.run(0, 0), 0);
        checks.same("the last", filter.run(0, 3), 1);
        for (int i : join(FAR, -1, 4, 5, 10)) {
            throwsIndex("run " + i, () -> filter.run(0, i));
        }
        for (int row : join(FAR, -1, 2, 23, 24)) {
            throwsIndex("of row " + row, () -> filter.run(row, 0));
        }
        checks.same("of the last row", filter.run(1, 0), 10);
    }

    @Sentence("`int runs(int row) throws ArrayIndexOutOfBoundsException`: How many runs a row has. ArrayIndexOutOfBoundsException.")
    void runsOfRow() {
        FaxFilter filter = filter(0, 700);
        throwsIndex("of no row", () -> filter.runs(0));
        filter.row();
        checks.same("the fewest", filter.runs(0), 1);
        filter.put(0, 0, 700, true);
        checks.same("dark", filter.runs(0), 2);
        for (int x = 1; x < 700; x += 2) {
            filter.put(0, x, x + 1, false);
        }
        checks.same("the most", filter.runs(0), 701);
        checks.same("the last of the most", filter.run(0, 700), 1);
        for (int row : join(FAR, -1, 1, 23, 24)) {
            throwsIndex("of row " + row, () -> filter.runs(row));
        }
    }

    // ---- promise 15 ----

    @Sentence("`int write()`: WRITES the picture: how many bytes.")
    void writeHowMany() {
        int[] empty = {0, (6 * 13 + 7) / 8, 3};
        for (int kind = 0; kind <= 2; kind++) {
            FaxFilter filter = filter(kind, 10);
            checks.same("no rows of kind " + kind, filter.write(), empty[kind]);
            filter.row();
            int one = filter.write();
            checks.same("told", filter.told(4), one);
            checks.same("again", filter.write(), one);
            for (int row = 1; row < 24; row++) {
                filter.row();
            }
            int bits = kind == 0 ? 24 * 5 : kind == 1 ? 24 * 13 + 6 * 5 + 18 + 6 * 13 : 24 + 24;
            checks.same("24 rows of kind " + kind, filter.write(), (bits + 7) / 8);
            filter.clear();
            checks.same("fewer again, kind " + kind, filter.write(), empty[kind]);
            throwsIndex("what was there", () -> filter.octet(empty[filter.told(0)]));
        }
    }

    // ---- promise 16 ----

    @Sentence("`int octet(int i) throws ArrayIndexOutOfBoundsException`: A byte that was written last, 0 .. 255. ArrayIndexOutOfBoundsException.")
    void octets() {
        FaxFilter filter = filter(0, 2);
        throwsIndex("before a writing", () -> filter.octet(0));
        filter.row();
        throwsIndex("a row is not written yet", () -> filter.octet(0));
        filter.row();
        filter.write();
        checks.same("1111 1111", filter.octet(0), 255);
        filter.row();
        filter.row();
        filter.row();
        filter.write();
        checks.same("0 to 255 behind 255, too", filter.octet(1), 255);
        checks.same("and behind that", filter.octet(2), 0b11110000);
        filter.setting(0, true);
        filter.write();
        checks.same("zeros", filter.octet(0), 0);
        checks.same("0001 1111", filter.octet(1), 31);
        for (int i : join(FAR, -1, filter.told(4), filter.told(4) + 1, 400, 14000, 15000)) {
            throwsIndex("byte " + i, () -> filter.octet(i));
        }
        filter.setting(0, false);
        filter.clear();
        checks.same("stays until the next writing", filter.octet(1), 31);
        filter.row();
        filter.write();
        checks.same("written last", filter.octet(0), 0b11110000);
        throwsIndex("written before", () -> filter.octet(1));
        filter.clear();
        filter.write();
        throwsIndex("of nothing", () -> filter.octet(0));
    }

    // ---- promise 17 ----

    @Sentence("`int code(boolean dark, int run) throws IllegalArgumentException`: The code of a run, its bits as a number, and 65536 times how many: dark, or white; term or make.")
    void codes() {
        FaxFilter filter = filter(0, 10);
        checks.same("white 0", filter.code(false, 0), 8 * 65536 + 0b00111111);
        checks.same("dark 0", filter.code(true, 0), 9 * 65536 + 0b000001111);
        checks.same("white 63", filter.code(false, 63), 8 * 65536 + 0b00011011);
        checks.same("dark 63", filter.code(true, 63), 12 * 65536 + 0b000000001101);
        checks.same("white 64", filter.code(false, 64), 5 * 65536 + 0b01111);
        checks.same("dark 64", filter.code(true, 64), 12 * 65536 + 0b000000001100);
        checks.same("white 640", filter.code(false, 640), 8 * 65536 + 0b00010011);
        checks.same("dark 640", filter.code(true, 640), 12 * 65536 + 0b000000000011);
        // Columns have nothing to do with it.
        checks.same("in one column", filter(2, 1).code(true, 640), 12 * 65536 + 0b000000000011);
    }

    @Sentence("IllegalArgumentException when there is none.")
    void codesOfNone() {
        FaxFilter filter = full();
        for (int run : join(FAR, -640, -64, -1, 65, 127, 129, 639, 641, 700, 703, 704, 705, 1 << 16, 64 << 16)) {
            refuses(filter, "white " + run, Checks.IAE, () -> filter.code(false, run));
            refuses(filter, "dark " + run, Checks.IAE, () -> filter.code(true, run));
        }
    }

    // ---- what it is ----

    @Sentence("An object is used for at most 512 calls after it has been made;")
    void lastCalls() {
        FaxFilter filter = filter(0, 700);
        for (int i = 0; i < 24; i++) {
            filter.row();
        }
        for (int i = 0; i < 484; i++) {
            filter.put(i % 24, i / 24, i / 24 + 1, true);
        }
        // White 0, dark 21 four times, 20 otherwise, and a long white run.
        int bits = 24 * white(0).length() + 4 * dark(21).length() + 20 * dark(20).length()
            + 4 * white(679).length() + 20 * white(680).length();
        checks.same("call 509", filter.write(), (bits + 7) / 8);
        checks.same("call 510", filter.take(), (bits + 7) / 8);
        checks.same("call 511", filter.read(24), 24);
        checks.same("call 512", filter.run(23, 1), 20);
    }
}
