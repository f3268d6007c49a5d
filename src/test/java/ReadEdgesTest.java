/** The sentences of "Terms" on reading. */
public final class ReadEdgesTest extends Edges {
    private static final String TEN = white(10);
    private static final String MAKE_64 = "01111";
    private static final String DARK_MAKE_64 = "000000001100";
    /** What ends a reading in kind 1: 13 bits are passed of it. */
    private static final String END = MARK + "1" + MARK;

    public static void main(String[] args) {
        run(ReadEdgesTest.class);
    }

    // ---- from row to row ----

    @Sentence("TO READ bytes, from their first bit on,")
    void fromTheFirstBit() {
        FaxFilter filter = filter(0, 10);
        collect(filter, TEN + TEN + zeros(6));
        for (int i = 0; i < 3; i++) {
            checks.same("rows", filter.read(1), 1);
            checks.same("bits", filter.told(5), 5);
            checks.same("rows", filter.read(24), 2);
            checks.same("bits", filter.told(5), 10);
        }
        collect(filter, white(9) + dark(1));
        filter.read(1);
        checks.same("not what was added last", picture(filter), "10/0");
    }

    @Sentence("row by row, until there are as many rows as told, or 24:")
    void asManyAsTold() {
        FaxFilter filter = filter(0, 10);
        collect(filter, TEN.repeat(32));
        for (int most = 0; most <= 24; most++) {
            checks.same("rows of " + most, filter.read(most), most);
            checks.same("bits of " + most, filter.told(5), 5 * most);
        }
        // Fewer than told; and none more than told, whatever is behind.
        reads(filter, TEN + TEN + zeros(6), "10/0, 10/0", 10, 0);
        readsSome(2, filter, TEN + TEN + "00010010 0000", "10/0, 10/0", 10);
        reads(2, filter, TEN + "00010010 0000", "10/0, 10/3", 5, 1);
        // Each kind of 30 rows.
        FaxFilter mixed = filter(1, 10);
        reads(mixed, (MARK + "0 1").repeat(30), "10/0, ".repeat(23) + "10/0", 24 * 14, 0);
        FaxFilter drawn = filter(2, 10);
        reads(drawn, "1".repeat(30), "10/0, ".repeat(23) + "10/0", 24, 0);
    }

    @Sentence("with marks: all up to the first place where eleven bits 0 or more, and a 1, have come one behind the other is passed (these, too;")
    void toTheMark() {
        FaxFilter filter = filter(0, 10, 0);
        for (int count : new int[] {11, 12, 13, 20, 64}) {
            reads(filter, zeros(count) + "1" + TEN + marks(2), "10/0", count + 18, 0);
            reads(filter, "1011" + zeros(count) + "1" + TEN + marks(2), "10/0", count + 22, 0);
        }
        // Ten are too few, also where the next ones make more.
        reads(filter, zeros(10) + "1" + TEN + zeros(8), "", 24, 0);
        reads(filter, zeros(10) + "1" + zeros(10) + "1" + zeros(11) + "1" + TEN + marks(2), "10/0", 51, 0);
        // The first one; what comes behind it is the row.
        reads(filter, "1" + MARK + white(9) + dark(1) + MARK + TEN + marks(2), "9 1/0, 10/0", 50, 0);
        // Between rows, too.
        reads(filter, MARK + TEN + "1111 00001" + MARK + TEN + marks(2), "10/0, 10/0", 55, 0);
        reads(filter, MARK + TEN + zeros(40) + "1" + TEN + marks(2), "10/0, 10/0", 75, 0);
        // Only bits that were not passed with the row make a mark.
        FaxFilter wide = filter(0, 11, 0);
        reads(wide, MARK + white(11) + zeros(7) + "1" + MARK + white(11) + marks(2), "11/0, 11/0", 54, 0);
    }

    @Sentence("if there is none, reading ends);")
    void noMark() {
        FaxFilter filter = filter(0, 10, 0);
        reads(filter, "", "", 0, 0);
        reads(filter, zeros(8), "", 8, 0);
        reads(filter, TEN + TEN + TEN, "", 16, 0);
        reads(filter, "1111" + zeros(20), "", 24, 0);
        reads(filter, zeros(15) + "1", "", 16, 0);
        reads(filter, MARK + TEN + "1111111", "10/0", 24, 0);
        reads(filter, MARK + TEN + zeros(15), "10/0", 32, 0);
        FaxFilter mixed = filter(1, 10);
        reads(mixed, "", "", 0, 0);
        reads(mixed, "1111 0000", "", 8, 0);
        reads(mixed, MARK + "1" + TEN + zeros(6), "10/0", 24, 0);
    }

    @Sentence("in kind 1 the next bit tells the way of the row (none: it ends);")
    void bitOfWay() {
        FaxFilter filter = filter(1, 10);
        String end = (MARK + "1").repeat(2);
        reads(filter, MARK + "1" + TEN + end, "10/0", 31, 0);
        reads(filter, MARK + "0 1" + end, "10/0", 27, 0);
        // 0 for rows 0 and 4, 1 for others: it is the bit that counts.
        reads(filter, MARK + "0 1" + (MARK + "1" + TEN).repeat(3) + MARK + "0 1" + end,
            "10/0, 10/0, 10/0, 10/0, 10/0", 14 + 54 + 14 + 13, 0);
        // The mark ends the last byte: no bit, no row.
        reads(filter, "0000" + MARK, "", 16, 0);
        reads(filter, MARK + "0 1" + zeros(17) + "1", "10/0", 32, 0);
        // One bit alone: the row is begun, and not there.
        reads(filter, "000" + MARK + "1", "", 16, 0);
        reads(filter, "000" + MARK + "0", "", 16, 0);
        // In kind 0 the bit is one of the row.
        reads(filter(0, 2, 0), MARK + "1111" + marks(2), "2/0", 28, 0);
        reads(filter(1, 2), MARK + "1" + "1111" + END, "2/0", 30, 0);
    }

    @Sentence("if eleven bits 0 or more, and a 1, come at once then, reading ends.")
    void markAtOnce() {
        FaxFilter filter = filter(0, 10, 0);
        String row = MARK + TEN;
        reads(filter, MARK + row + row, "", 12, 0);
        reads(filter, row + marks(2) + row, "10/0", 29, 0);
        for (int count : new int[] {11, 12, 19, 60}) {
            reads(filter, row + MARK + zeros(count) + "1" + row, "10/0", 29, 0);
        }
        // Ten are no mark: a row that is damaged, and reading goes on.
        reads(filter, row + MARK + zeros(10) + "1" + row + marks(2), "10/0, 10/3, 10/0", 69, 1);
        // Not at once; and no 1 behind.
        reads(filter, row + MARK + white(8) + row + marks(2), "10/0, 10/2, 10/0", 63, 0);
        reads(filter, row + MARK + zeros(27), "10/0", 29, 0);
        FaxFilter mixed = filter(1, 10);
        for (String way : new String[] {"1", "0"}) {
            reads(mixed, MARK + "1" + TEN + MARK + way + MARK + "1" + TEN, "10/0", 31, 0);
            reads(mixed, MARK + way + zeros(13) + "1" + MARK + "1" + TEN, "", 13, 0);
        }
        // The bit 0 of the way is none of the eleven.
        reads(mixed, MARK + "0" + zeros(10) + "1" + MARK + "1" + TEN + MARK + "1" + MARK, "10/3, 10/0", 55, 1);
        // A drawn row of nothing but 0 is no mark.
        reads(mixed, MARK + "0" + zeros(19), "10/3", 32, 1);
    }

    @Sentence("Without marks: aligned, bits are passed to the next byte;")
    void toTheNextByte() {
        FaxFilter filter = filter(0, 10, 1);
        // The first row begins at once; 3 bits behind it, whatever they are.
        reads(filter, TEN + "111" + TEN + "000", "10/0, 10/0", 16, 0);
        readsSome(1, filter, TEN + "111" + TEN + "000", "10/0", 5);
        readsSome(2, filter, TEN + "111" + TEN + "000", "10/0, 10/0", 13);
        // None where the row ends a byte; seven where it ends with a byte's first bit.
        FaxFilter eight = filter(0, 28, 1);
        readsSome(3, eight, white(28).repeat(3), "28/0, 28/0, 28/0", 24);
        FaxFilter nine = filter(0, 13, 1);
        readsSome(2, nine, white(8) + dark(5) + "1111111" + white(8) + dark(5), "8 5/0, 8 5/0", 25);
        FaxFilter drawn = filter(2, 10, 1);
        readsSome(3, drawn, "1 0101010 1 1111111 1", "10/0, 10/0, 10/0", 17);
        // Not aligned, none are passed; and with marks none before the row.
        FaxFilter none = filter(0, 10);
        readsSome(2, none, TEN + TEN, "10/0, 10/0", 10);
        FaxFilter marked = filter(0, 10, 0, 1);
        reads(marked, MARK + TEN + MARK + TEN + marks(2), "10/0, 10/0", 46, 0);
        FaxFilter mixed = filter(1, 10, 1);
        reads(mixed, MARK + "1" + TEN + MARK + "0 1" + END, "10/0, 10/0", 45, 0);
    }

    @Sentence("in kind 2, if eleven bits 0 or more, and a 1, come at once, reading ends.")
    void markInDrawn() {
        FaxFilter filter = filter(2, 10);
        reads(filter, MARK + "1111", "", 0, 0);
        reads(filter, "1" + MARK + "1111", "10/0", 1, 0);
        reads(filter, "1" + zeros(30) + "1", "10/0", 1, 0);
        // Ten, or no 1 behind, are no mark.
        reads(filter, "1" + zeros(10) + "1", "10/0, 10/3", 1, 1);
        reads(filter, "1" + zeros(15), "10/0, 10/3", 1, 1);
        // Aligned: behind the bits that are passed.
        filter.setting(1, true);
        reads(filter, "1 0000000" + MARK + "1111", "10/0", 8, 0);
        reads(filter, "1 0000000" + zeros(10) + "1", "10/0, 10/3", 8, 1);
        // In kind 0 without marks it is damage.
        reads(filter(0, 10), TEN + MARK, "10/0, 10/3", 5, 1);
    }

    @Sentence("Then the row is read; where bits end before something is read that is needed, reading ends, and the row that was begun is not there.")
    void bitsEnd() {
        FaxFilter filter = filter(0, 10);
        reads(filter, "", "", 0, 0);
        // Before a code, in one, behind a make, and behind a run.
        reads(filter, TEN + "011", "10/0", 5, 0);
        reads(filter, white(2) + "0000", "", 4, 0);
        reads(filter, TEN + "01111 000000", "10/0", 10, 0);
        reads(filter, TEN + TEN + white(6) + "00", "10/0, 10/0", 14, 0);
        reads(filter(0, 28), white(28), "28/0", 8, 0);
        FaxFilter drawn = filter(2, 20);
        reads(drawn, "", "", 0, 0);
        reads(drawn, FIRST + "0000", "5 5 10/0", 12, 0);
        reads(drawn, FIRST + "001 0", "5 5 10/0", 15, 0);
        reads(drawn, FIRST + "001" + white(2) + "00000", "5 5 10/0", 19, 0);
        reads(drawn, FIRST + "001" + MAKE_64 + "0000", "5 5 10/0", 20, 0);
        // With marks, in the last row alone.
        FaxFilter marked = filter(0, 10, 0);
        reads(marked, MARK + TEN + MARK + "111", "10/0", 29, 0);
        // No row of its own: what was read of it is gone.
        marked.row();
        checks.same("a white row where it was begun", marked.runs(1), 1);
    }

    // ---- plain rows ----

    @Sentence("A code is that of the table with which the bits begin;")
    void codesRead() {
        int[] runs = {0, 1, 2, 7, 8, 11, 12, 17, 18, 27, 28, 63, 64, 128, 192, 640};
        for (int run : runs) {
            readsSome(1, filter(0, 700), white(run) + dark(700 - run) + "1", run + " " + (700 - run) + "/0",
                white(run).length() + dark(700 - run).length());
            readsSome(1, filter(0, 700), white(1) + dark(run) + white(699 - run) + "1", run == 0 ? "700/0"
                : "1 " + run + " " + (699 - run) + "/0", 6 + dark(run).length() + white(699 - run).length());
        }
    }

    @Sentence("there is NONE, if twelve bits begin with no code of it.")
    void noCode() {
        FaxFilter filter = filter(0, 10);
        // Twelve bits are there, or eleven; white and dark.
        reads(filter, TEN + TEN + TEN + TEN + zeros(12), "10/0, 10/0, 10/0, 10/0, 10/3", 20, 1);
        reads(filter, TEN + zeros(11), "10/0", 5, 0);
        reads(filter, white(2) + zeros(12), "10/3", 4, 1);
        reads(filter, white(8) + zeros(11), "", 5, 0);
        reads(filter, "00010010 1111", "10/3", 0, 1);
        reads(filter, "00010010", "", 0, 0);
        reads(filter, white(2) + "000000000010", "10/3", 4, 1);
        reads(filter(0, 700), white(2) + "000000000011" + dark(58), "2 698/0", 28, 0);
    }

    @Sentence("A plain row: runs by codes of the tables, white and dark by turns:")
    void byTurns() {
        FaxFilter filter = filter(0, 10);
        readsSome(1, filter, white(2) + dark(2) + white(3) + dark(1) + white(2), "2 2 3 1 2/0", 17);
        readsSome(1, filter, white(0) + dark(2) + white(0) + dark(2) + white(6), "0 4 6/0", 24);
        readsSome(1, filter, white(2) + dark(0) + white(8) + "000", "10/0", 18);
        // Each row begins with white, whatever the one before it ended with.
        readsSome(2, filter, white(9) + dark(1) + white(9) + dark(1), "9 1/0, 9 1/0", 16);
    }

    @Sentence("makes, as many as there are, then a term, together;")
    void makes() {
        FaxFilter filter = filter(0, 700);
        readsSome(1, filter, "01111 00111111" + dark(636), "64 636/0", 37);
        readsSome(1, filter, "01111 01111 01110" + white(5) + dark(439), "261 439/0", 43);
        readsSome(1, filter, "00010011 00011110", "700/0", 16);
        readsSome(1, filter, white(0) + "000000000011" + "000000001100" + "000001111", "0 700/1", 41);
        // A make alone does not fill the row, though its places would.
        FaxFilter low = filter(0, 64);
        readsSome(1, low, "01111 00111111 000", "64/0", 13);
        reads(low, "01111 000", "", 5, 0);
        FaxFilter lower = filter(0, 10);
        readsSome(1, lower, "01111".repeat(630) + white(0), "10/1", 3158);
        reads(lower, "00010011".repeat(400), "", 3200, 0);
    }

    @Sentence("a run that goes beyond COLUMNS is cut there (the row is CUT: state 1);")
    void cutRuns() {
        FaxFilter filter = filter(0, 10);
        readsSome(1, filter, white(10) + "000", "10/0", 5);
        readsSome(1, filter, white(11) + "000", "10/1", 5);
        readsSome(1, filter, white(640), "10/1", 16);
        readsSome(1, filter, white(7) + dark(3), "7 3/0", 6);
        readsSome(1, filter, white(7) + dark(4), "7 3/1", 7);
        readsSome(1, filter, white(7) + dark(2) + white(2), "7 2 1/1", 10);
        readsSome(1, filter, white(0) + dark(11), "0 10/1", 15);
        // The next row is sound, and begins behind the whole code.
        readsSome(2, filter, white(11) + white(10), "10/1, 10/0", 10);
        readsSome(1, filter(0, 1), white(2) + "0000", "1/1", 4);
        readsSome(1, filter(0, 700), white(640) + dark(61), "640 60/1", 28);
        readsSome(1, filter(0, 700), white(640) + dark(60), "640 60/0", 28);
    }

    @Sentence("until it is full.")
    void untilFull() {
        FaxFilter filter = filter(0, 10);
        // Nothing of a row is read behind its last place, not even a run of none.
        readsSome(1, filter, white(10) + dark(0), "10/0", 5);
        readsSome(2, filter, white(10) + white(0) + dark(10), "10/0, 0 10/0", 20);
        // One place less is not full.
        readsSome(1, filter, white(9) + dark(0) + white(1), "10/0", 20);
        readsSome(1, filter(0, 1), white(0) + dark(0) + white(1), "1/0", 23);
    }

    @Sentence("Where there is none: with marks, if no make was read for this run, and eleven bits 0 or more come before a 1, the row is SHORT (2),")
    void shortRows() {
        FaxFilter filter = filter(0, 10, 0);
        for (int count : new int[] {11, 12, 13, 30}) {
            String behind = zeros(count) + "1" + TEN + marks(2);
            reads(filter, MARK + white(8) + behind, "10/2, 10/0", 35 + count, 0);
            reads(filter, MARK + white(8) + dark(1) + behind, "8 1 1/2, 10/0", 38 + count, 0);
            // Behind a make it is damaged.
            reads(filter, MARK + MAKE_64 + behind, "10/3, 10/0", 35 + count, 1);
            reads(filter, MARK + white(8) + DARK_MAKE_64 + behind, "10/3, 10/0", 47 + count, 1);
        }
        // A make of a run before it does not count.
        FaxFilter wide = filter(0, 100, 0);
        reads(wide, MARK + white(64) + MARK + white(100) + marks(2), "100/2, 100/0", 62, 0);
        // Ten bits 0 are too few.
        reads(filter, MARK + white(8) + zeros(10) + "1" + MARK + TEN + marks(2), "10/3, 10/0", 57, 1);
        // In kind 1, too; but not without marks.
        FaxFilter mixed = filter(1, 10);
        reads(mixed, MARK + "1" + white(8) + MARK + "1" + TEN + MARK + "1" + MARK, "10/2, 10/0", 49, 0);
        reads(filter(0, 10), white(8) + MARK + TEN, "10/3", 5, 1);
    }

    @Sentence("the rest of it white,")
    void restOfShortRows() {
        FaxFilter filter = filter(0, 10, 0, 3);
        String full = MARK + white(0) + dark(10);
        String end = MARK + TEN + marks(2);
        reads(filter, full + MARK + white(0) + dark(9) + end, "0 10/0, 0 9 1/2, 10/0", 83, 0);
        reads(filter, full + MARK + white(9) + end, "0 10/0, 10/2, 10/0", 73, 0);
        reads(filter, full + MARK + white(0) + end, "0 10/0, 10/2, 10/0", 76, 0);
        reads(filter, full + MARK + white(1) + dark(2) + white(2) + end, "0 10/0, 1 2 7/2, 10/0", 80, 0);
    }

    @Sentence("these bits are not passed")
    void shortBitsStay() {
        FaxFilter filter = filter(0, 10, 0);
        readsSome(1, filter, MARK + white(8) + MARK + TEN + marks(2), "10/2", 17);
        readsSome(1, filter, MARK + white(8) + dark(1) + zeros(20) + "1" + TEN, "8 1 1/2", 20);
        // So the mark is there for the next row.
        readsSome(2, filter, MARK + white(8) + MARK + TEN + marks(2), "10/2, 10/0", 34);
    }

    @Sentence("(where nothing but 0 comes to the end of all, reading ends, the row is not there);")
    void nothingButZeros() {
        FaxFilter filter = filter(0, 10, 0);
        for (int count : new int[] {15, 23, 39}) {
            reads(filter, MARK + white(8) + zeros(count), "", 17, 0);
            reads(filter, MARK + TEN + MARK + white(8) + zeros(count + 6), "10/0", 34, 0);
            reads(filter, MARK + TEN + MARK + zeros(count + 8), "10/0", 29, 0);
            // Behind a make it is damage.
            reads(filter, MARK + MAKE_64 + zeros(count), "10/3", 17 + count, 1);
        }
        // So it is without marks, and in a drawn row.
        reads(filter(0, 10), white(8) + zeros(19), "10/3", 5, 1);
        reads(filter(1, 10), MARK + "0" + zeros(19), "10/3", 32, 1);
        reads(filter(1, 10), MARK + "0 001" + zeros(16), "10/3", 32, 1);
        // A 1 at the very end makes the row short.
        reads(filter, MARK + white(8) + zeros(14) + "1", "10/2", 32, 0);
    }

    @Sentence("otherwise it is DAMAGED (3),")
    void damagedRows() {
        FaxFilter filter = filter(0, 10, 0);
        String next = MARK + TEN + marks(2);
        reads(filter, MARK + "00010010" + next, "10/3, 10/0", 49, 1);
        reads(filter, MARK + "00001" + next, "10/3, 10/0", 46, 1);
        reads(filter, MARK + white(2) + dark(3) + "00001" + next, "10/3, 10/0", 52, 1);
        reads(filter, MARK + white(2) + "000000000010" + next, "10/3, 10/0", 57, 1);
        // With eleven bits 0 it is short.
        reads(filter, MARK + white(2) + "000000000001" + TEN + marks(2), "10/2, 10/0", 45, 0);
    }

    @Sentence("the bits of what was no code are not passed.")
    void bitsOfNoCode() {
        FaxFilter filter = filter(0, 10, 0);
        reads(1, filter, MARK + white(2) + dark(2) + "00010010" + zeros(8), "10/3", 18, 1);
        // The makes before it are, as codes that were read.
        reads(1, filter, MARK + white(2) + DARK_MAKE_64 + "000000000010" + "1111", "10/3", 28, 1);
        reads(filter(0, 10), TEN + TEN + "00010010 0000", "10/0, 10/0, 10/3", 10, 1);
        // A mark that begins within what was no code is found.
        reads(filter, MARK + "0001" + MARK + TEN + marks(2), "10/3, 10/0", 45, 1);
        reads(filter, MARK + MAKE_64 + MARK + TEN + marks(2), "10/3, 10/0", 46, 1);
    }

    // ---- drawn rows ----

    @Sentence("A drawn row: codes as above until a is COLUMNS:")
    void codesToTheEnd() {
        readsBelow("1 1 1", "5 5 10/0", 3);
        readsBelow("1 0001", "5 15/0", 5);
        readsBelow("001" + white(10) + dark(10), "10 10/0", 3 + 5 + 7);
        readsBelow("001" + white(10) + dark(9) + "1", "10 9 1/0", 3 + 5 + 7 + 1);
        // A row of one place; and no code behind the last place.
        reads(filter(2, 1), "1 010 1 1 1" + marks(2), "1/0, 0 1/0, 0 1/0", 7, 0);
        readsSome(2, filter(2, 20), FIRST + "1 1 1 1 1", "5 5 10/0, 5 5 10/0", 15);
    }

    @Sentence("PASS: places from a up to c keep the present colour, a becomes c.")
    void passes() {
        readsBelow("0001 1", "20/0", 5);
        readsBelow("0001 001" + white(1) + dark(4) + "1", "11 4 5/0", 4 + 3 + 6 + 3 + 1);
        // Dark places keep dark; up to the end where there is no c.
        FaxFilter filter = filter(2, 20);
        String above = "001" + white(2) + dark(2) + "001" + white(2) + dark(2) + "1";
        reads(filter, above + "1 0001 1 1" + marks(2), "2 2 2 2 12/0, 2 6 12/0", 19 + 7, 0);
        reads(filter, above + "1 0001 0001" + marks(2), "2 2 2 2 12/0, 2 18/0", 19 + 9, 0);
        reads(filter, "0001" + marks(2), "20/0", 4, 0);
        readsBelow("0001 0001", "20/0", 8);
    }

    @Sentence("One of the seven: e is b and what it says;")
    void seven() {
        readsBelow("1 001" + dark(15) + white(0), "5 15/0", 1 + 20);
        readsBelow("011 001" + dark(14) + white(0), "6 14/0", 3 + 20);
        readsBelow("010 001" + dark(16) + white(0), "4 16/0", 3 + 20);
        readsBelow("000011 001" + dark(13) + white(0), "7 13/0", 6 + 20);
        readsBelow("000010 001" + dark(17) + white(0), "3 17/0", 6 + 20);
        readsBelow("0000011 001" + dark(12) + white(0), "8 12/0", 7 + 18);
        readsBelow("0000010 001" + dark(18) + white(0), "2 18/0", 7 + 20);
    }

    @Sentence("if that is before a, or (but for the first code of the row) at a, it is DAMAGED;")
    void beforeOrAtA() {
        // For the first code a is 0, and e may be: b is at 0, 1, 2, 3, and e as far before it, or farther.
        String[] before = {"1", "010", "000010", "0000010"};
        for (int b = 0; b <= 3; b++) {
            String above = "001" + white(b) + dark(5) + "1";
            String row = b + " 5 " + (15 - b) + "/0";
            int passed = above.length() + before[b].length();
            readsSome(2, filter(2, 20), above + before[b] + "001" + dark(20) + white(0), row + ", 0 20/0", passed + 20);
            for (int by = b + 1; by <= 3; by++) {
                passed = above.length() + before[by].length();
                reads(2, filter(2, 20), above + before[by] + "1111", row + ", 20/3", passed, 1);
            }
        }
        // Dark from 8 on, and b is 10: behind a, at it, before it.
        readsBelow("0000011 010 1", "8 1 11/0", 11);
        readsBelow("0000011 000010 1", "20/3", 13);
        readsBelow("0000011 0000010 1", "20/3", 14);
        // Behind PASS to 4, where b is 6.
        String above = "001" + white(2) + dark(2) + "001" + white(2) + dark(2) + "1";
        readsSome(2, filter(2, 20), above + "0001 010 0001", "2 2 2 2 12/0, 5 15/0", 19 + 11);
        reads(2, filter(2, 20), above + "0001 000010 1", "2 2 2 2 12/0, 20/3", 19 + 10, 1);
        reads(2, filter(2, 20), above + "0001 0000010 1", "2 2 2 2 12/0, 20/3", 19 + 11, 1);
        // Behind an ACROSS of no places a is 0, but the code is not the first one.
        reads(2, filter(2, 20), above + "001" + white(0) + dark(0) + "000010 1", "2 2 2 2 12/0, 20/3", 19 + 26, 1);
        readsSome(2, filter(2, 20), above + "001" + white(0) + dark(0) + "010 001" + dark(19) + white(0),
            "2 2 2 2 12/0, 1 19/0", 19 + 20 + 3 + 20);
    }

    @Sentence("if it is beyond COLUMNS, it is cut there (1);")
    void cutSeven() {
        reads(filter(2, 20), "011" + marks(2), "20/1", 3, 0);
        reads(filter(2, 20), "000011" + marks(2), "20/1", 6, 0);
        reads(filter(2, 20), "0000011" + marks(2), "20/1", 7, 0);
        reads(filter(2, 20), "1" + marks(2), "20/0", 1, 0);
        // b is 17, 18: three behind it is the end, or beyond.
        String[] above = {"0000010 1", "000010 1"};
        readsSome(2, filter(2, 20), above[0] + "0000011", "17 3/0, 20/0", 8 + 7);
        readsSome(2, filter(2, 20), above[1] + "0000011", "18 2/0, 20/1", 7 + 7);
        readsSome(2, filter(2, 20), above[1] + "000011", "18 2/0, 20/0", 7 + 6);
        // While the colour is dark.
        readsSome(2, filter(2, 20), above[0] + "1 011", "17 3/0, 17 3/1", 8 + 4);
        // The row below a cut one goes by it; reading goes on.
        readsSome(2, filter(2, 20), "0000010 011 1 1", "17 3/1, 17 3/0", 12);
        readsSome(2, filter(2, 1), "0000011 1", "1/1, 1/0", 8);
    }

    @Sentence("places up to e have the present colour.")
    void placesOfSeven() {
        readsBelow("0000011 0000011 1", "8 5 7/0", 15);
        readsBelow("0000010 1 1", "2 8 10/0", 9);
        // Dark over what is white above, and white over what is dark there.
        readsBelow("1 0000011 1", "5 8 7/0", 9);
        readsBelow("0000011 1 0000010 1", "8 2 7 3/0", 16);
    }

    @Sentence("ACROSS: two runs as in plain rows, the second one of the other colour,")
    void across() {
        readsBelow("001" + white(1) + dark(2) + "0001 1", "1 2 17/0", 3 + 8 + 5);
        readsBelow("1 001" + dark(2) + white(3) + "1", "5 2 3 10/0", 11);
        // A run of no places, the first one or the second; makes, as many as there are.
        readsBelow("001" + white(0) + dark(20), "0 20/0", 3 + 17);
        readsBelow("001" + white(20) + dark(0), "20/0", 3 + 16);
        FaxFilter wide = filter(2, 700);
        readsSome(1, wide, "001" + MAKE_64 + MAKE_64 + white(2) + DARK_MAKE_64 + DARK_MAKE_64 + dark(1) + "1",
            "130 129 441/0", 3 + 14 + 27 + 1);
        // The colour stays: white, as before.
        String ones = "001" + white(1) + dark(1);
        readsBelow(ones + ones + "0001 1", "1 1 1 1 16/0", 12 + 12 + 5);
    }

    @Sentence("both cut at COLUMNS (1);")
    void cutAcross() {
        // The second one: to the end, and one more.
        reads(filter(2, 20), "001" + white(14) + dark(6) + marks(2), "14 6/0", 13, 0);
        reads(filter(2, 20), "001" + white(14) + dark(7) + marks(2), "14 6/1", 14, 0);
        // The first one, and then the second one, which is read, too.
        reads(filter(2, 20), "001" + white(20) + dark(0) + marks(2), "20/0", 19, 0);
        reads(filter(2, 20), "001" + white(20) + dark(1) + marks(2), "20/1", 13, 0);
        reads(filter(2, 20), "001" + white(21) + dark(0) + marks(2), "20/1", 19, 0);
        reads(filter(2, 20), "001" + white(640) + dark(640) + marks(2), "20/1", 40, 0);
        // Dark places, white ones behind.
        readsBelow("1 001" + dark(15) + white(0), "5 15/0", 21);
        readsBelow("1 001" + dark(16) + white(0), "5 15/1", 21);
        readsBelow("1 001" + dark(14) + white(2), "5 14 1/1", 1 + 3 + 9 + 4);
    }

    @Sentence("DAMAGED, where there is none.")
    void damagedAcross() {
        // The first run, the second one, and behind makes.
        readsBelow("001" + MARK, "20/3", 3);
        readsBelow("001" + white(2) + MARK, "20/3", 7);
        readsBelow("001" + MAKE_64 + MARK, "20/3", 8);
        readsBelow("001" + white(2) + DARK_MAKE_64 + MARK, "20/3", 19);
        readsBelow("1 001" + "000000000010", "20/3", 4);
        // Though the bits begin with one of the nine.
        readsBelow("001" + "0001 0000 0000", "20/3", 3);
        readsBelow("1 001" + dark(2) + "0001 0010 1111", "20/3", 6);
        // Though the first one was cut, and though the row were full.
        readsBelow("001" + white(21) + MARK, "20/3", 10);
        // With marks, too, it is not short; and bits 0 to the end are damage.
        FaxFilter mixed = filter(1, 10);
        reads(mixed, MARK + "0 001" + MARK + "0 1" + END, "10/3, 10/0", 16 + 14 + 13, 1);
        reads(mixed, MARK + "0 001" + white(2) + MARK + "0 1" + END, "10/3, 10/0", 20 + 14 + 13, 1);
        reads(mixed, MARK + "0 001" + zeros(16), "10/3", 32, 1);
        // Fewer than twelve bits are none that damages: they end.
        reads(filter(2, 20), FIRST + "0001 1 001 0000", "5 5 10/0, 20/0", 20, 0);
    }

    @Sentence("Bits that begin with none of the nine: DAMAGED, once seven of them are there.")
    void noneOfTheNine() {
        // Seven bits, and six.
        reads(filter(2, 20), FIRST + "0001 1" + "0000000", "5 5 10/0, 20/0, 20/3", 17, 1);
        reads(filter(2, 20), FIRST + "0001 1" + "0000001", "5 5 10/0, 20/0, 20/3", 17, 1);
        reads(filter(2, 20), FIRST + "1 1 1 1 1 1" + "000000", "5 5 10/0, 5 5 10/0, 5 5 10/0", 18, 0);
        reads(filter(2, 20), FIRST + "0000", "5 5 10/0", 12, 0);
        readsBelow("1 1 0000000 1", "20/3", 2);
        readsBelow("1 1 0000001 1", "20/3", 2);
        // The last of the nine that have seven bits.
        readsBelow("0000010 1 1", "2 8 10/0", 9);
        readsBelow("0000011 1 1", "8 2 10/0", 9);
        // A mark in a row.
        readsBelow("1" + MARK, "20/3", 1);
    }

    @Sentence("(Bits of a code that damages are passed, or not, as they were read: of the nine, those of the code;")
    void bitsOfTheNine() {
        readsBelow("0000011 000010 1", "20/3", 13);
        readsBelow("0000011 0000010 1", "20/3", 14);
        // 0 of the code, which is passed, and ten more are no mark.
        FaxFilter filter = filter(1, 20);
        String first = MARK + "1" + white(5) + dark(5) + white(10);
        reads(filter, first + MARK + "0 0000011 000010" + zeros(10) + "1" + MARK + "0 1" + END,
            "5 5 10/0, 20/3, 20/0", 26 + 26 + 11 + 14 + 13, 1);
        reads(filter, first + MARK + "0 0000011 000010" + zeros(11) + "1" + "0 1" + END,
            "5 5 10/0, 20/3, 20/0", 26 + 26 + 12 + 2 + 13, 1);
    }

    @Sentence("where there is none of the nine, none;")
    void bitsOfNoneOfTheNine() {
        readsBelow("0000000 1", "20/3", 0);
        readsBelow("1 0000001 1", "20/3", 1);
        // All eleven bits 0 of the next mark may be among them.
        FaxFilter filter = filter(1, 20);
        reads(filter, MARK + "0 010" + MARK + "0 1" + END, "20/3, 20/0", 16 + 14 + 13, 1);
    }

    @Sentence("for runs as above.)")
    void bitsOfRuns() {
        readsBelow("001" + "0000 0000 0000", "20/3", 3);
        readsBelow("001" + white(2) + "0000 0000 0010", "20/3", 7);
        readsBelow("001" + MAKE_64 + MAKE_64 + "0000 0000 0000", "20/3", 13);
        readsBelow("001" + white(3) + DARK_MAKE_64 + "0000 0000 0010", "20/3", 19);
        FaxFilter filter = filter(1, 20);
        reads(filter, MARK + "0 001" + MAKE_64 + MARK + "0 1" + END, "20/3, 20/0", 21 + 14 + 13, 1);
    }

    // ---- damaged rows ----

    @Sentence("A DAMAGED row is as the row above (with setting 3;")
    void asTheRowAbove() {
        FaxFilter filter = filter(0, 10, 0, 3);
        String row = MARK + white(2) + dark(3) + white(5);
        String damaged = MARK + white(1) + dark(1) + "00001";
        reads(filter, row + damaged + damaged + MARK + TEN + damaged + marks(2),
            "2 3 5/0, 2 3 5/3, 2 3 5/3, 10/0, 10/3", 22 + 26 + 26 + 17 + 26 + 12, 3);
        // As a row that is short, or cut.
        reads(filter, MARK + white(2) + dark(3) + damaged + damaged + marks(2), "2 3 5/2, 2 3 5/3, 2 3 5/3",
            18 + 26 + 26 + 12, 2);
        reads(filter, MARK + white(2) + dark(9) + damaged + marks(2), "2 8/1, 2 8/3", 23 + 26 + 12, 1);
        FaxFilter drawn = filter(2, 20, 3);
        reads(drawn, FIRST + "0001 001" + white(1) + dark(2) + "0000000" + "1", "5 5 10/0, 5 5 10/3", 12 + 15, 1);
        reads(filter(0, 10, 3), white(9) + dark(1) + "0001 0010 0000", "9 1/0, 9 1/3", 8, 1);
        // The row below goes by what stands there.
        FaxFilter mixed = filter(1, 20, 3);
        String first = MARK + "1" + white(5) + dark(5) + white(10);
        reads(mixed, first + MARK + "0 1 0000000 1" + MARK + "0 1 1 1" + END, "5 5 10/0, 5 5 10/3, 5 5 10/0",
            26 + 22 + 16 + 13, 1);
    }

    @Sentence("white for the first one), or white;")
    void whiteWhereDamaged() {
        String damaged = MARK + white(1) + dark(5) + "00001";
        FaxFilter above = filter(0, 10, 0, 3);
        // What was there before, and what was read of the row, is gone.
        reads(above, MARK + white(0) + dark(10) + marks(2), "0 10/0", 39, 0);
        reads(above, damaged + damaged + marks(2), "10/3, 10/3", 27 + 27 + 12, 2);
        reads(filter(2, 20, 3), "001" + white(1) + dark(5) + "0000000", "20/3", 13, 1);
        // Without setting 3 all are white.
        FaxFilter white = filter(0, 10, 0);
        reads(white, MARK + white(0) + dark(10) + damaged + marks(2), "0 10/0, 10/3", 27 + 27 + 12, 1);
        readsBelow("1 1 0000000", "20/3", 2);
        reads(filter(0, 10), white(0) + dark(10) + white(1) + dark(5) + "0001 0010 0000", "0 10/0, 10/3", 25, 1);
    }

    @Sentence("without marks reading ends behind it,")
    void endWithoutMarks() {
        reads(filter(0, 10), TEN + "0000 0000 0000 1" + TEN + TEN, "10/0, 10/3", 5, 1);
        reads(filter(0, 10), "0000 0000 0000 1" + TEN + TEN, "10/3", 0, 1);
        reads(filter(0, 10, 1), TEN + "000" + "0001 0010 0000 0000" + TEN + "000" + TEN, "10/0, 10/3", 8, 1);
        reads(filter(2, 20), FIRST + "0000000" + "1 1 1 1 1 1", "5 5 10/0, 20/3", 12, 1);
        // Setting 0 makes no marks in kind 2, but in kind 0.
        reads(filter(2, 20, 0), FIRST + "0000000 1" + MARK + "1 1 1", "5 5 10/0, 20/3", 12, 1);
        reads(filter(0, 10, 0), MARK + "00001" + MARK + TEN + marks(2), "10/3, 10/0", 46, 1);
    }

    @Sentence("and so behind the fifth one that is damaged.")
    void endBehindTheFifth() {
        String damaged = MARK + "00001";
        String row = MARK + TEN;
        String end = row + marks(2);
        FaxFilter filter = filter(0, 10, 0);
        // Four are not too many; the fifth is the last row, however far it is from the fourth.
        reads(filter, damaged.repeat(4) + end, "10/3, 10/3, 10/3, 10/3, 10/0", 97, 4);
        reads(filter, damaged.repeat(5) + end, "10/3, 10/3, 10/3, 10/3, 10/3", 80, 5);
        reads(filter, damaged.repeat(4) + row + damaged + end, "10/3, 10/3, 10/3, 10/3, 10/0, 10/3", 97, 5);
        reads(filter, (damaged + row).repeat(6), "10/3, 10/0, 10/3, 10/0, 10/3, 10/0, 10/3, 10/0, 10/3", 148, 5);
        // A reading counts its own ones alone.
        for (int i = 0; i < 3; i++) {
            reads(filter, damaged.repeat(3) + end, "10/3, 10/3, 10/3, 10/0", 80, 3);
        }
        FaxFilter mixed = filter(1, 10);
        reads(mixed, (MARK + "0 0000001").repeat(6), "10/3, 10/3, 10/3, 10/3, 10/3", 4 * 20 + 13, 5);
    }
}
