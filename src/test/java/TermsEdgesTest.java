/** The sentences of "Terms" on pictures, tables, rows and writing. */
public final class TermsEdgesTest extends Edges {
    public static void main(String[] args) {
        run(TermsEdgesTest.class);
    }

    // ---- pictures ----

    @Sentence("A PICTURE has ROWS, 24 at most,")
    void rowsAtMost() {
        FaxFilter filter = filter(0, 10);
        for (int row = 0; row < 24; row++) {
            checks.same("row", filter.row(), row);
        }
        checks.same("row 24", Checks.answer(() -> filter.row()), Checks.UOE);
        collect(filter, white(10).repeat(25));
        checks.same("25 rows to read", filter.read(24), 24);
        checks.same("row 24", Checks.answer(() -> filter.row()), Checks.UOE);
        throwsIndex("row 24", () -> filter.runs(24));
        checks.same("row 23", filter.runs(23), 1);
    }

    @Sentence("of COLUMNS (1 .. 700) places, white or dark.")
    void places() {
        for (int columns : new int[] {1, 2, 63, 64, 65, 699, 700}) {
            FaxFilter filter = filter(0, columns);
            filter.row();
            filter.put(0, columns - 1, columns, true);
            checks.same("the last of " + columns, filter.bit(0, columns - 1), 1);
            throwsIndex("behind the last of " + columns, () -> filter.bit(0, columns));
            throwsArgument("behind the last of " + columns, () -> filter.put(0, columns - 1, columns + 1, true));
            checks.same("runs of " + columns, picture(filter), columns - 1 + " 1/0");
            sendsAndReads(filter, white(columns - 1) + dark(1));
        }
    }

    @Sentence("The RUNS of a row are how many places, from the left, are white, then dark, then white, and so on: as many as are needed to come to the last place")
    void runsToTheLastPlace() {
        FaxFilter filter = drawn(0, 130, ends(10, 20), ends(10, 130), ends(10, 129), ends(129, 130), ends(63, 65));
        checks.same("runs", picture(filter), "10 10 110/0, 10 120/0, 10 119 1/0, 129 1/0, 63 2 65/0");
    }

    @Sentence("(the first one may be 0; so a row of white has one run).")
    void firstRunOfNone() {
        FaxFilter filter = drawn(0, 10, ends(), ends(0, 1), ends(0, 10), ends(0, 1, 9, 10));
        checks.same("runs", picture(filter), "10/0, 0 1 9/0, 0 10/0, 0 1 8 1/0");
        checks.same("one run", filter.runs(0), 1);
        checks.same("places of the first", filter.run(2, 0), 0);
        FaxFilter one = drawn(0, 1, ends(), ends(0, 1));
        checks.same("runs of one column", picture(one), "1/0, 0 1/0");
    }

    @Sentence("BITS are taken from a byte's highest one on.")
    void highestFirst() {
        FaxFilter filter = drawn(0, 3, ends());
        writes(filter, white(3));
        checks.same("1110 from the highest on", filter.octet(0), 0b11100000);
        filter.add(0b11100000, 1);
        checks.same("read from the highest on", filter.read(24), 1);
        checks.same("the row", picture(filter), "3/0");
        checks.same("four bits", filter.told(5), 4);
        filter.drop();
        filter.setting(0, true);
        // 00000000 00011110: the mark's 1 is the fourth bit of the second byte.
        filter.add(0x1E00, 2);
        checks.same("a mark from the highest on", filter.read(24), 1);
        checks.same("twelve bits, and four", filter.told(5), 16);
    }

    // ---- kinds ----

    @Sentence("0 plain: all rows are PLAIN.")
    void plainKind() {
        FaxFilter filter = filter(0, 10);
        for (int row = 0; row < 24; row++) {
            filter.row();
        }
        sendsAndReads(filter, white(10).repeat(24));
    }

    @Sentence("1 mixed: rows 0, 4, 8, .. are plain, others are DRAWN.")
    void mixedKind() {
        FaxFilter filter = filter(1, 10);
        for (int row = 0; row < 24; row++) {
            filter.row();
        }
        String four = MARK + "1" + white(10) + (MARK + "0 1").repeat(3);
        sendsAndReads(filter, four.repeat(6) + (MARK + "1").repeat(6));
    }

    @Sentence("2 drawn: all are drawn.")
    void drawnKind() {
        FaxFilter filter = filter(2, 10);
        for (int row = 0; row < 24; row++) {
            filter.row();
        }
        sendsAndReads(filter, "1".repeat(24) + marks(2));
    }

    // ---- tables ----

    private final FaxFilter coder = filter(0, 1);

    private void howMany(boolean dark, int bits, int... runs) {
        for (int run : runs) {
            checks.same((dark ? "bits of dark " : "bits of white ") + run, coder.code(dark, run) >> 16, bits);
        }
    }

    @Sentence({"A KIND:", "TABLES: each run n has a code in a table, of white or of dark ones. TERMS are 0 .. 63, MAKES 64, 128, .., 640."})
    void termsAndMakes() {
        for (int run = -1; run <= 704; run++) {
            boolean isThere = run >= 0 && run < 64 || run >= 64 && run <= 640 && run % 64 == 0;
            int asked = run;
            checks.same("white " + run, Checks.answer(() -> coder.code(false, asked)) > 0 ? 1 : 0, isThere ? 1 : 0);
            checks.same("dark " + run, Checks.answer(() -> coder.code(true, asked)) > 0 ? 1 : 0, isThere ? 1 : 0);
        }
    }

    @Sentence("How many bits they have: white: 2 .. 7: 4; 8 .. 11, 64, 128: 5; 1, 12 .. 17: 6; 18 .. 27: 7; 0, 28 .. 63, 192 .. 640: 8.")
    void bitsOfWhite() {
        howMany(false, 4, 2, 3, 6, 7);
        howMany(false, 5, 8, 9, 10, 11, 64, 128);
        howMany(false, 6, 1, 12, 13, 16, 17);
        howMany(false, 7, 18, 19, 26, 27);
        howMany(false, 8, 0, 28, 29, 62, 63, 192, 256, 576, 640);
    }

    @Sentence("Dark: 2, 3: 2; 1, 4: 3; 5, 6: 4; 7, 8: 5; 9 .. 12: 7; 0, 13 .. 20: 9; 21 .. 640: 12.")
    void bitsOfDark() {
        howMany(true, 2, 2, 3);
        howMany(true, 3, 1, 4);
        howMany(true, 4, 5, 6);
        howMany(true, 5, 7, 8);
        howMany(true, 7, 9, 10, 11, 12);
        howMany(true, 9, 0, 13, 14, 19, 20);
        howMany(true, 12, 21, 22, 62, 63, 64, 128, 576, 640);
    }

    @Sentence("The codes: v is 1 at first; in the order of how many bits, of the same of the lesser run, v becomes v - 1 / 2^bits, and the code is the bits of v 2^bits.")
    void codesByOrder() {
        Object[][] codes = {{false, 2, "1111"}, {false, 3, "1110"}, {false, 7, "1010"}, {false, 8, "10011"},
            {false, 11, "10000"}, {false, 64, "01111"}, {false, 128, "01110"}, {false, 1, "011011"},
            {false, 12, "011010"}, {false, 17, "010101"}, {false, 18, "0101001"}, {false, 27, "0100000"},
            {false, 0, "00111111"}, {false, 28, "00111110"}, {false, 63, "00011011"}, {false, 192, "00011010"},
            {false, 640, "00010011"}, {true, 2, "11"}, {true, 3, "10"}, {true, 1, "011"}, {true, 4, "010"},
            {true, 5, "0011"}, {true, 6, "0010"}, {true, 7, "00011"}, {true, 8, "00010"}, {true, 9, "0000111"},
            {true, 12, "0000100"}, {true, 0, "000001111"}, {true, 13, "000001110"}, {true, 20, "000000111"},
            {true, 21, "000000110111"}, {true, 63, "000000001101"}, {true, 64, "000000001100"},
            {true, 640, "000000000011"}};
        for (Object[] code : codes) {
            String bits = (String) code[2];
            checks.same("code of " + code[0] + " " + code[1], coder.code((boolean) code[0], (int) code[1]),
                65536 * bits.length() + Integer.parseInt(bits, 2));
        }
    }

    @Sentence("A run of 64 or more is the make of (n / 64) 64 and the term of n % 64; another one its term.")
    void longRuns() {
        int[] runs = {1, 62, 63, 64, 65, 127, 128, 129, 191, 192, 639, 640, 641, 699, 700};
        for (int run : runs) {
            String whiteMake = run < 64 ? "" : Model.code(false, run / 64 * 64);
            String darkMake = run < 64 ? "" : Model.code(true, run / 64 * 64);
            String white = whiteMake + Model.code(false, run % 64);
            String dark = darkMake + Model.code(true, run % 64);
            sendsAndReads(drawn(0, run, ends(), ends(0, run)), white + Model.code(false, 0) + dark);
            if (run > 3) {
                sendsAndReads(drawn(2, run, ends(0, run)), "001" + Model.code(false, 0) + dark + marks(2));
            }
        }
        sendsAndReads(drawn(0, 700, ends(64, 128, 192, 256)),
            "01111 00111111" + "000000001100 000001111" + "01111 00111111" + "000000001100 000001111" + white(444));
    }

    @Sentence("THE MARK is 000000000001.")
    void mark() {
        writes(filter(2, 10), "000000000001 000000000001");
        FaxFilter filter = filter(0, 2, 0);
        reads(filter, "000000000001" + white(2), "2/0", 16, 0);
        reads(filter, "000000000010" + white(2), "", 16, 0);
    }

    @Sentence("No code begins with eleven 0.")
    void codesAboveMark() {
        for (int run = 0; run <= 640; run += run < 64 ? 1 : 64) {
            for (boolean dark : new boolean[] {false, true}) {
                int bits = coder.code(dark, run) >> 16;
                int asTwelve = (coder.code(dark, run) & 65535) << 12 - bits;
                checks.same("code of " + run, asTwelve > 1 ? 1 : 0, 1);
            }
        }
    }

    // ---- rows ----

    @Sentence("A PLAIN row: its runs, each by the table of its colour.")
    void plainRow() {
        FaxFilter filter = drawn(0, 20, ends(), ends(0, 20), ends(5, 10), ends(0, 1, 19, 20), ends(19, 20));
        sendsAndReads(filter, white(20) + white(0) + dark(20) + white(5) + dark(5) + white(10)
            + white(0) + dark(1) + white(18) + dark(1) + white(19) + dark(1));
    }

    @Sentence("A DRAWN row, against the row above (white above the first one).")
    void drawnRowAbove() {
        sendsAndReads(drawn(2, 20, ends()), "1" + marks(2));
        sendsAndReads(drawn(2, 20, ends(17, 20)), "0000010 1" + marks(2));
        // The row right above, not one before it.
        sendsAndReads(drawn(2, 20, ends(5, 10), ends(), ends(5, 10)), FIRST + "0001 1" + FIRST + marks(2));
        // In kind 1, the first row, which is plain, stands above the second one.
        sendsAndReads(drawn(1, 20, ends(5, 10), ends(6, 10)), MARK + "1" + white(5) + dark(5) + white(10)
            + MARK + "0 011 1 1" + (MARK + "1").repeat(6));
    }

    @Sentence("A CHANGE of a row is a place whose colour is another one than that before (before place 0 it is white).")
    void changeAtTheFirstPlace() {
        // Dark from place 0 on: a change there; and none at place 0 where it is white.
        sendsAndReads(drawn(2, 20, ends(0, 20), ends(0, 20)), "001" + white(0) + dark(20) + "1 1" + marks(2));
        sendsAndReads(drawn(2, 20, ends(0, 1), ends(0, 1)), "001" + white(0) + dark(1) + "1" + "1 1 1" + marks(2));
        sendsAndReads(drawn(2, 20, ends(1, 2), ends(1, 2)), "001" + white(1) + dark(1) + "1" + "1 1 1" + marks(2));
    }

    @Sentence("a is 0 at first, and the colour white.")
    void beginning() {
        FaxFilter filter = drawn(2, 20, ends(0, 5), ends(0, 10), ends(4, 8));
        // Each row anew, dark as the one above it may end.
        sendsAndReads(filter, "001" + white(0) + dark(5) + "1" + "1 001" + dark(10) + white(10)
            + "001" + white(4) + dark(4) + "1" + marks(2));
        sendsAndReads(drawn(2, 20, ends(10, 20), ends(10, 20)),
            "001" + white(10) + dark(10) + "1 1" + marks(2));
    }

    @Sentence("b is the first change of the row above, not before a for the first code of a row,")
    void firstCodeAtItsPlace() {
        String first = "001" + white(0) + dark(5) + "1";
        sendsAndReads(drawn(2, 20, ends(0, 5), ends(0, 5)), first + "1 1 1" + marks(2));
        sendsAndReads(drawn(2, 20, ends(0, 5), ends(1, 5)), first + "011 1 1" + marks(2));
        sendsAndReads(drawn(2, 20, ends(0, 5), ends(3, 5)), first + "0000011 1 1" + marks(2));
        sendsAndReads(drawn(2, 20, ends(0, 5), ends()), first + "0001 1" + marks(2));
    }

    @Sentence("behind a for others,")
    void otherCodesBehind() {
        // ACROSS to 5, where the row above changes to dark: not b any more, which is the end.
        sendsBelow("001" + white(1) + dark(4) + "001" + white(2) + dark(1) + "1", 1, 5, 7, 8);
        // ACROSS to 4: the change at 5 is b.
        sendsBelow("001" + white(1) + dark(3) + "000011 000010 1", 1, 4, 7, 8);
    }

    @Sentence("to the other colour than the present one (a change from the present colour);")
    void changesFromTheColour() {
        // ACROSS to 7: the change at 10 is one to white, which is the present colour.
        sendsBelow("001" + white(1) + dark(6) + "001" + white(3) + dark(2) + "1", 1, 7, 10, 12);
        // Dark from 2 on: the change at 5 is one to dark, the one at 10 is b.
        sendsBelow("0000010 1 1", 2, 10);
    }

    @Sentence("c is the next change behind b; COLUMNS where there is none.")
    void nextChange() {
        // b is 5, c is 10: PASS, but not where the row above stays dark to the end.
        sendsBelow("0001 1");
        sendsAndReads(drawn(2, 20, ends(5, 20), ends()), "001" + white(5) + dark(15)
            + "001" + white(20) + dark(0) + marks(2));
        sendsAndReads(drawn(2, 20, ends(5, 19), ends()), "001" + white(5) + dark(14) + "1 0001 1" + marks(2));
        // c is right behind b; and far behind it.
        sendsAndReads(drawn(2, 20, ends(5, 6), ends(10, 20)), "001" + white(5) + dark(1) + "1"
            + "0001 001" + white(4) + dark(10) + marks(2));
        sendsAndReads(drawn(2, 20, ends(1, 18), ends(19, 20)), "001" + white(1) + dark(17) + "1"
            + "0001 010 1" + marks(2));
        // b is the end, and so is c: no PASS.
        sendsAndReads(drawn(2, 20, ends(), ends(16, 20)), "1 001" + white(16) + dark(4) + marks(2));
    }

    @Sentence("e is the next place from a on of the row that is drawn that has not the present colour (COLUMNS if none).")
    void nextOtherColour() {
        // e is a: the first place.
        sendsAndReads(drawn(2, 20, ends(2, 5), ends(0, 5)), "001" + white(2) + dark(3) + "1" + "000010 1 1" + marks(2));
        // e is the last place, and the end.
        sendsAndReads(drawn(2, 20, ends(), ends(19, 20)), "1 010 1" + marks(2));
        sendsAndReads(drawn(2, 20, ends(), ends()), "1 1" + marks(2));
        sendsAndReads(drawn(2, 1, ends(), ends(0, 1)), "1 010 1" + marks(2));
    }

    @Sentence("While a < COLUMNS:")
    void untilTheEnd() {
        // The row is at its end with the last place: no code is sent behind it.
        sendsAndReads(drawn(2, 1, ends()), "1" + marks(2));
        sendsAndReads(drawn(2, 1, ends(0, 1)), "010 1" + marks(2));
        sendsAndReads(drawn(2, 20, ends(10, 20)), "001" + white(10) + dark(10) + marks(2));
        // One place before the end is not.
        sendsAndReads(drawn(2, 20, ends(10, 19)), "001" + white(10) + dark(9) + "1" + marks(2));
    }

    @Sentence("where c < e: 0001 (PASS): a becomes c.")
    void pass() {
        sendsBelow("0001 1");
        // c is 10: e must be behind it.
        sendsBelow("0001 001" + white(1) + dark(9), 11, 20);
        sendsBelow("001" + white(10) + dark(10), 10, 20);
        sendsBelow("001" + white(9) + dark(11), 9, 20);
        // Two in a row, and one while the colour is dark.
        sendsAndReads(drawn(2, 20, ends(2, 4, 6, 8), ends()),
            "001" + white(2) + dark(2) + "001" + white(2) + dark(2) + "1 0001 0001 1" + marks(2));
        sendsAndReads(drawn(2, 20, ends(2, 4, 6, 8), ends(2, 8)),
            "001" + white(2) + dark(2) + "001" + white(2) + dark(2) + "1 1 0001 1 1" + marks(2));
    }

    @Sentence("Otherwise where e is b - 3 .. b + 3: by e - b: 0: 1; 1: 011; -1: 010; 2: 000011; -2: 000010; 3: 0000011; -3: 0000010;")
    void seven() {
        sendsBelow("1 001" + dark(15) + white(0), 5, 20);
        sendsBelow("011 001" + dark(14) + white(0), 6, 20);
        sendsBelow("010 001" + dark(16) + white(0), 4, 20);
        sendsBelow("000011 001" + dark(13) + white(0), 7, 20);
        sendsBelow("000010 001" + dark(17) + white(0), 3, 20);
        sendsBelow("0000011 001" + dark(12) + white(0), 8, 20);
        sendsBelow("0000010 001" + dark(18) + white(0), 2, 20);
        // One more, either way, is none of the seven.
        sendsBelow("001" + white(9) + dark(11), 9, 20);
        sendsBelow("001" + white(1) + dark(19), 1, 20);
    }

    @Sentence("a becomes e, the colour the other one.")
    void sevenOnes() {
        // Dark from 5, 6, 8 on: the next b is 10, with the next colour; then the end.
        sendsBelow("1 011 1", 5, 11);
        sendsBelow("011 0000011 1", 6, 13);
        sendsBelow("0000011 010 1", 8, 9);
        sendsBelow("1 0000010 1", 5, 7);
        sendsBelow("1 1 0000010 1", 5, 10, 17, 20);
    }

    @Sentence("Otherwise 001 (ACROSS), the run from a to e by the table of the present colour, and the run of the other colour from e on, by its;")
    void across() {
        // White then dark; dark then white; and the second one of no place at the end.
        sendsBelow("001" + white(1) + dark(2) + "0001 1", 1, 3);
        sendsBelow("1 001" + dark(9) + white(6), 5, 14);
        sendsBelow("1 001" + dark(15) + white(0), 5, 20);
        // The first one of no place, at place 0.
        sendsBelow("001" + white(0) + dark(1) + "0001 1", 0, 1);
        // Runs of 64 and more: a make and a term each.
        sendsAndReads(drawn(2, 700, ends(64, 128)), "001" + white(64) + dark(64) + "1" + marks(2));
    }

    @Sentence("a becomes where that ends.")
    void acrossEnds() {
        // Up to 3, and on from there: PASS by the changes at 5 and 10; or the seven.
        sendsBelow("001" + white(1) + dark(2) + "0001 1", 1, 3);
        sendsBelow("001" + white(1) + dark(2) + "1 1 1", 1, 3, 5, 10);
        // Up to the last place but one, and the last one.
        sendsBelow("001" + white(1) + dark(18) + "1", 1, 19);
        sendsBelow("001" + white(1) + dark(19), 1, 20);
    }

    // ---- marks and writing ----

    @Sentence("MARKS: they are there in kind 1,")
    void marksInMixed() {
        FaxFilter filter = drawn(1, 10, ends());
        for (boolean on : new boolean[] {false, true, false}) {
            filter.setting(0, on);
            sendsAndReads(filter, MARK + "1" + white(10) + (MARK + "1").repeat(6));
        }
    }

    @Sentence("in kind 0 with setting 0,")
    void marksInPlain() {
        FaxFilter filter = drawn(0, 10, ends());
        sendsAndReads(filter, white(10));
        filter.setting(0, true);
        sendsAndReads(filter, MARK + white(10) + marks(6));
        filter.setting(0, false);
        sendsAndReads(filter, white(10));
        // Others make none.
        filter.setting(2, true);
        filter.setting(3, true);
        sendsAndReads(filter, white(10));
    }

    @Sentence("never in kind 2.")
    void marksInDrawn() {
        FaxFilter filter = drawn(2, 10, ends(), ends());
        for (boolean on : new boolean[] {false, true, false}) {
            filter.setting(0, on);
            sendsAndReads(filter, "1 1" + marks(2));
        }
    }

    @Sentence("ALIGNED is setting 1.")
    void alignedBySetting() {
        FaxFilter filter = drawn(0, 10, ends(), ends());
        filter.setting(1, true);
        sendsAndReads(filter, white(10) + zeros(3) + white(10));
        filter.setting(1, false);
        sendsAndReads(filter, white(10) + white(10));
    }

    @Sentence("TO WRITE all rows: for each: with marks the mark (aligned: as many bits 0 before it, less than eight, that it ends a byte),")
    void marksAligned() {
        for (int columns : new int[] {1, 2, 8, 12, 18, 28}) {
            String row = white(columns);
            FaxFilter filter = drawn(0, columns, ends(), ends());
            filter.setting(0, true);
            sendsAndReads(filter, (MARK + row).repeat(2) + marks(6));
            filter.setting(1, true);
            String between = zeros(-(16 + row.length() + 12) & 7);
            sendsAndReads(filter, zeros(4) + MARK + row + between + MARK + row + marks(6));
        }
        // White 2 ends at bit 20, so that the mark ends a byte at once; white 8 at 21, and seven are needed.
        FaxFilter none = drawn(0, 2, ends(), ends());
        none.setting(0, true);
        none.setting(1, true);
        writes(none, "0000" + MARK + "1111" + MARK + "1111" + marks(6));
        FaxFilter seven = drawn(0, 8, ends(), ends());
        seven.setting(0, true);
        seven.setting(1, true);
        writes(seven, "0000" + MARK + "10011 0000000" + MARK + "10011" + marks(6));
        // In kind 1 the mark itself ends the byte, not the bit behind it.
        FaxFilter mixed = drawn(1, 8, ends(), ends());
        mixed.setting(1, true);
        sendsAndReads(mixed, "0000" + MARK + "1 10011 000000" + MARK + "0 1" + (MARK + "1").repeat(6));
    }

    @Sentence("then in kind 1 a bit, 1 for a plain row, 0 for a drawn one;")
    void bitOfWay() {
        FaxFilter filter = drawn(1, 20, ends(5, 10), ends(5, 10), ends(5, 10), ends(5, 10), ends(5, 10));
        String plain = MARK + "1" + white(5) + dark(5) + white(10);
        sendsAndReads(filter, plain + (MARK + "0 1 1 1").repeat(3) + plain + (MARK + "1").repeat(6));
        // In kind 0 there is none.
        FaxFilter other = drawn(0, 20, ends(5, 10));
        other.setting(0, true);
        sendsAndReads(other, MARK + white(5) + dark(5) + white(10) + marks(6));
    }

    @Sentence("without marks, aligned: bits 0 up to the next byte;")
    void rowsAligned() {
        // Rows of 5, 8, 9 and 1 bits: 3, none, 7 and 7 bits 0 behind them.
        FaxFilter five = drawn(0, 8, ends(), ends(), ends());
        five.setting(1, true);
        sendsAndReads(five, "10011 000 10011 000 10011");
        FaxFilter eight = drawn(0, 28, ends(), ends(), ends());
        eight.setting(1, true);
        sendsAndReads(eight, white(28) + white(28) + white(28));
        FaxFilter nine = drawn(0, 13, ends(8, 13), ends(8, 13));
        nine.setting(1, true);
        sendsAndReads(nine, white(8) + dark(5) + zeros(7) + white(8) + dark(5));
        FaxFilter one = drawn(2, 8, ends(), ends());
        one.setting(1, true);
        sendsAndReads(one, "1 0000000 1 0000000" + marks(2));
    }

    @Sentence("then the row.")
    void rowsWritten() {
        for (int kind = 0; kind <= 2; kind++) {
            FaxFilter filter = filter(kind, 10);
            writes(filter, kind == 0 ? "" : kind == 1 ? (MARK + "1").repeat(6) : marks(2));
            darken(filter, filter.row(), 9, 10);
            String plain = white(9) + dark(1);
            sendsAndReads(filter, kind == 0 ? plain : kind == 1 ? MARK + "1" + plain + (MARK + "1").repeat(6)
                : "010 1" + marks(2));
        }
    }

    @Sentence("At the end: with marks six marks one behind the other")
    void sixMarks() {
        FaxFilter filter = filter(0, 10, 0);
        writes(filter, marks(6));
        filter.row();
        sendsAndReads(filter, MARK + white(10) + marks(6));
        // One behind the other, aligned or not.
        filter.setting(1, true);
        sendsAndReads(filter, zeros(4) + MARK + white(10) + marks(6));
        filter.clear();
        writes(filter, marks(6));
        filter.setting(0, false);
        writes(filter, "");
    }

    @Sentence("(in kind 1 each with a bit 1 behind it);")
    void sixMarksInMixed() {
        FaxFilter filter = filter(1, 10);
        writes(filter, (MARK + "1").repeat(6));
        filter.row();
        filter.row();
        sendsAndReads(filter, MARK + "1" + white(10) + MARK + "0 1" + (MARK + "1").repeat(6));
        filter.setting(1, true);
        filter.clear();
        writes(filter, (MARK + "1").repeat(6));
    }

    @Sentence("in kind 2 two marks (aligned: behind bits 0 up to the next byte);")
    void twoMarks() {
        FaxFilter filter = filter(2, 20);
        writes(filter, marks(2));
        filter.setting(1, true);
        writes(filter, marks(2));
        filter.row();
        sendsAndReads(filter, "1 0000000" + marks(2));
        // Eight bits: the marks come at once.
        filter.put(0, 17, 20, true);
        sendsAndReads(filter, "0000010 1" + marks(2));
        filter.setting(1, false);
        sendsAndReads(filter, "0000010 1" + marks(2));
        filter.put(0, 0, 20, false);
        sendsAndReads(filter, "1" + marks(2));
    }

    @Sentence("then bits 0 to the end of the byte.")
    void lastByte() {
        // Rows of 4, 5, 8 and 9 bits: 4, 3, none and 7 bits 0; over what an earlier writing left.
        int[] columns = {2, 8, 28, 13};
        String[] rows = {"1111", "10011", "00111110", "10011 0011"};
        for (int i = 0; i < 4; i++) {
            FaxFilter filter = filter(0, columns[i]);
            for (int row = 0; row < 8; row++) {
                filter.row();
            }
            filter.write();
            filter.clear();
            darken(filter, filter.row(), i == 3 ? ends(8, 13) : ends());
            checks.same("bytes", filter.write(), i == 3 ? 2 : 1);
            sendsAndReads(filter, rows[i]);
        }
        // 12 and 72 bits of marks, and white 2: 84 bits.
        FaxFilter filter = filter(0, 2, 0);
        filter.row();
        writes(filter, MARK + "1111" + marks(6));
        checks.same("bytes", filter.told(4), 11);
    }
}
