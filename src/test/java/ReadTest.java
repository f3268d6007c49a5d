/** Promise 7: read. */
public final class ReadTest extends Promise {
    /** A first row of 5 white, 5 dark, 10 white in kind 2: 12 bits. */
    private static final String FIRST = "001 1100 0011 1 ";

    public static void main(String[] args) {
        ReadTest test = new ReadTest();
        test.plainRows();
        test.plainRowsWithoutCode();
        test.longRuns();
        test.marks();
        test.shortRows();
        test.damagedRowsBetweenMarks();
        test.mixedRows();
        test.drawnRows();
        test.drawnRowsAtTheFirstPlace();
        test.drawnRowsThatAreCut();
        test.drawnRowsThatAreDamaged();
        test.damagedRowsInMixed();
        test.most();
        test.checks.end("ReadTest");
    }

    private void plainRows() {
        FaxFilter filter = filter(0, 10);
        reads(filter, "", "", 0, 0);
        reads(filter, "10001", "10/0", 5, 0);
        reads(filter, "10010 011", "9 1/0", 8, 0);
        reads(filter, "10010 011 10001 000", "9 1/0, 10/0", 13, 0);
        // A run of 0 places between others.
        reads(filter, "1111 000001111 10011 00", "10/0", 18, 0);
        // Runs that go beyond the last place are cut there.
        reads(filter, "10011 10 0", "8 2/1", 7, 0);
        reads(filter, "10000 000", "10/1", 5, 0);
        // The row is full with its last place: the dark run of 0 is none of it.
        readsSome(1, filter, "10001 000001111 00", "10/0", 5);
        filter.setting(1, true);
        readsSome(3, filter, "10001 111 10010 011 10001 000", "10/0, 9 1/0, 10/0", 21);
        reads(filter, "10001 111 10010 000", "10/0", 13, 0);
        FaxFilter one = filter(0, 1);
        reads(one, "011011 00111111 011 0000000", "1/0, 0 1/0", 17, 0);
    }

    private void plainRowsWithoutCode() {
        FaxFilter filter = filter(0, 10);
        // Less than twelve bits that begin with no code: bits end.
        reads(filter, "10001 000 0000 0000", "10/0", 5, 0);
        reads(filter, "10011 000 0000 0000", "", 5, 0);
        reads(filter, "10001 10011 000000", "10/0", 10, 0);
        // Twelve: the row is damaged, and reading ends without marks.
        reads(filter, "1000 1000 0000 0000 0 1000110001", "10/0, 10/3", 5, 1);
        reads(filter, "10001 10011 000000000010 11", "10/0, 10/3", 10, 1);
        reads(filter, "00010010 0000 0000", "10/3", 0, 1);
        reads(filter, "01111 00010010 0000", "10/3", 5, 1);
        // A mark is nothing but damage without marks, and so are bits 0 to the end.
        reads(filter, "10001" + MARK + "10001", "10/0, 10/3", 5, 1);
        reads(filter, "10001 000 00000000 00000000", "10/0, 10/3", 5, 1);
    }

    private void longRuns() {
        FaxFilter filter = filter(0, 700);
        reads(filter, "00010011 00011110", "700/0", 16, 0);
        // Makes, as many as there are, then a term: white 64 and 64 and 2, dark 512 and 64, then 0.
        readsSome(1, filter, "01111 01111 1111 000000000101 000000001100 000001111 00010000", "130 570/1", 47);
        // White 576 and 61, dark 63.
        readsSome(1, filter, "00010100 00011101 000000001101 0000", "637 63/0", 28);
        // Makes alone, until the bits end, are no row.
        reads(filter, "01111".repeat(16), "", 80, 0);
        FaxFilter low = filter(0, 10);
        reads(low, "01111 01110 1111 00", "10/1", 14, 0);
        readsSome(1, low, "01111".repeat(600) + "1111 0000", "10/1", 3004);
    }

    private void marks() {
        FaxFilter filter = filter(0, 10, 0);
        String two = MARK + "10001" + MARK + "10010011";
        reads(filter, two + Promise.marks(6), "10/0, 9 1/0", 37 + 12, 0);
        // What stands before a mark, and bits 0 more than eleven, are passed.
        reads(filter, "1011 0000" + MARK + "10001" + Promise.marks(2), "10/0", 37, 0);
        reads(filter, "0000000000 1 00000000000 1 10001" + Promise.marks(2), "10/0", 40, 0);
        reads(filter, "1111 00000000 00", "", 16, 0);
        reads(filter, "", "", 0, 0);
        // A mark at once behind a mark ends all, and is not passed.
        reads(filter, MARK + MARK + "10001" + MARK + "10001", "", 12, 0);
        reads(filter, MARK + "00" + MARK + "10001" + MARK + "10001", "", 12, 0);
        // Bits behind a row are passed up to the next mark.
        reads(filter, MARK + "10001 1011" + MARK + "10010011" + Promise.marks(2), "10/0, 9 1/0", 53, 0);
        // Bits end in a row, or before it.
        reads(filter, "0000" + MARK, "", 16, 0);
        reads(filter, MARK + "1001", "", 12, 0);
        // Marks need not end a byte when they are read, whatever setting 1 is.
        filter.setting(1, true);
        reads(filter, two + Promise.marks(6), "10/0, 9 1/0", 37 + 12, 0);
    }

    private void shortRows() {
        FaxFilter filter = filter(0, 10, 0);
        String next = MARK + "10001" + marks(2);
        // A mark where a run is due: it is not passed with the row.
        reads(filter, MARK + "10011" + next, "10/2, 10/0", 17 + 29, 0);
        reads(filter, MARK + "1100 11" + next, "5 2 3/2, 10/0", 18 + 29, 0);
        reads(filter, MARK + "1100 11 000" + next, "5 2 3/2, 10/0", 21 + 29, 0);
        // The same behind a make is damage.
        reads(filter, MARK + "01111" + next, "10/3, 10/0", 17 + 29, 1);
        // Fewer than eleven bits 0 before a 1 are damage.
        reads(filter, MARK + "10011 000000000010 000", "10/3", 32, 1);
        // Nothing but 0 to the end: the row is not there; behind a make it is damaged.
        reads(filter, MARK + "10011 000 00000000 00000000", "", 17, 0);
        reads(filter, MARK + "0000 00000000 00000000", "", 12, 0);
        reads(filter, MARK + "01111 000 00000000 00000000", "10/3", 40, 1);
        // Eleven bits 0 behind a make are too few for that.
        reads(filter, "0000" + MARK + "01111 00000000000", "", 21, 0);
        filter.setting(0, false);
        reads(filter, "10011" + MARK, "10/3", 5, 1);
    }

    private void damagedRowsBetweenMarks() {
        FaxFilter filter = filter(0, 10, 0);
        String damage = MARK + "0000101";
        String sound = MARK + "10010011";
        reads(filter, sound + damage + sound + marks(2), "9 1/0, 10/3, 9 1/0", 20 + 19 + 20 + 12, 1);
        // What was no code is not passed: a mark that begins there counts.
        reads(filter, MARK + "01111" + sound + marks(2), "10/3, 9 1/0", 17 + 20 + 12, 1);
        filter.setting(3, true);
        reads(filter, sound + damage + sound + marks(2), "9 1/0, 9 1/3, 9 1/0", 20 + 19 + 20 + 12, 1);
        reads(filter, damage + damage + sound + marks(2), "10/3, 10/3, 9 1/0", 19 + 19 + 20 + 12, 2);
        filter.setting(3, false);
        reads(filter, damage.repeat(4) + sound + marks(2), "10/3, 10/3, 10/3, 10/3, 9 1/0", 76 + 20 + 12, 4);
        // Behind the fifth that is damaged reading ends, sound ones between them or not.
        reads(filter, damage.repeat(5) + sound + marks(2), "10/3, 10/3, 10/3, 10/3, 10/3", 76 + 12, 5);
        reads(filter, damage.repeat(3) + sound + damage.repeat(3), "10/3, 10/3, 10/3, 9 1/0, 10/3, 10/3",
            57 + 20 + 19 + 12, 5);
        // Rows that are cut or short are not damaged.
        reads(filter, (MARK + "10000").repeat(6) + marks(2), "10/1, 10/1, 10/1, 10/1, 10/1, 10/1", 102 + 12, 0);
    }

    private void mixedRows() {
        FaxFilter filter = filter(1, 10);
        String end = (MARK + "1").repeat(6);
        reads(filter, MARK + "1 10010 011" + MARK + "0 1 1" + end, "9 1/0, 9 1/0", 21 + 15 + 13, 0);
        readsSome(2, filter, MARK + "1 10010 011" + MARK + "0 1 1" + end, "9 1/0, 9 1/0", 21 + 15);
        // The bit behind the mark tells the way, whatever the number of the row.
        reads(filter, MARK + "0 1" + MARK + "1 10001" + end, "10/0, 10/0", 14 + 18 + 13, 0);
        // There is no such bit, or a mark behind it.
        reads(filter, "0000" + MARK, "", 16, 0);
        reads(filter, MARK + "0" + MARK + "1 10001", "", 13, 0);
        reads(filter, MARK + "1 00" + MARK + "1 10001", "", 13, 0);
        // The bit 0 for a drawn row is none of the mark behind it: ten bits 0 are damage.
        reads(filter, MARK + "0 0000000000 1" + MARK + "1 10001" + end, "10/3, 10/0", 13 + 11 + 18 + 13, 1);
        // A plain row is short at a mark, a drawn one damaged.
        reads(filter, MARK + "1 10011" + MARK + "0 1" + end, "10/2, 10/0", 18 + 14 + 13, 0);
        reads(filter, MARK + "1 1101 10 1110" + MARK + "0 1" + MARK + "1 10001" + end, "4 3 3/0, 10/3, 10/0",
            23 + 14 + 18 + 13, 1);
        filter.setting(0, true);
        filter.setting(1, true);
        reads(filter, MARK + "1 10010 011" + end, "9 1/0", 21 + 13, 0);
    }

    private void drawnRows() {
        FaxFilter filter = filter(2, 20);
        reads(filter, marks(2), "", 0, 0);
        reads(filter, FIRST + marks(2), "5 5 10/0", 12, 0);
        second(filter, "1 1 1", "5 5 10/0", 3);
        second(filter, "011 000010 1", "6 2 12/0", 10);
        second(filter, "000010 0000011 1", "3 10 7/0", 14);
        second(filter, "0000010 010 1", "2 7 11/0", 11);
        second(filter, "010 011 1", "4 7 9/0", 7);
        second(filter, "000011 000011 1", "7 5 8/0", 13);
        second(filter, "0000011 1 1", "8 2 10/0", 9);
        second(filter, "0001 1", "20/0", 5);
        second(filter, "0001 001 1111 10 1", "12 3 5/0", 14);
        second(filter, "001 00111111 000000111", "0 20/0", 20);
        // PASS goes to the last place where there is no change more, in the present colour.
        second(filter, "0001 0001", "20/0", 8);
        second(filter, "1 0001", "5 15/0", 5);
        // A row goes by the one above it, which goes by its own.
        reads(filter, FIRST + "011 011 1 011 010 1" + marks(2), "5 5 10/0, 6 5 9/0, 7 3 10/0", 26, 0);
        filter.setting(1, true);
        // Aligned: bits are passed to the next byte before each row, and before the marks.
        reads(filter, FIRST + "1111 111 11111" + marks(2), "5 5 10/0, 5 5 10/0", 24, 0);
    }

    /** A row below one of 5 white, 5 dark, 10 white, and two marks. */
    private void second(FaxFilter filter, String bits, String row, int passed) {
        reads(filter, FIRST + bits + marks(2), "5 5 10/0, " + row, 12 + passed, 0);
    }

    private void drawnRowsAtTheFirstPlace() {
        FaxFilter filter = filter(2, 20);
        // 0 white, 5 dark, 15 white: 16 bits.
        String first = "001 00111111 0011 1 ";
        reads(filter, first + "1 1 1" + marks(2), "0 5 15/0, 0 5 15/0", 19, 0);
        reads(filter, first + "011 1 1" + marks(2), "0 5 15/0, 1 4 15/0", 21, 0);
        reads(filter, first + "010" + marks(2), "0 5 15/0, 20/3", 19, 1);
        // The first change is 1: one before it is the first place, and that is right for the first code.
        String second = "001 011011 010 1 ";
        reads(filter, second + "010 1 1" + marks(2), "1 4 15/0, 0 5 15/0", 18, 0);
        reads(filter, second + "000010 " + marks(2), "1 4 15/0, 20/3", 19, 1);
        // For the second code that is damage: dark from 0 on, and one before the change at 1 is 0 again.
        reads(filter, "001 00111111 011 1 1 010 " + marks(2), "0 1 19/0, 20/3", 19, 1);
        // An ACROSS of 0 and 0 places: from then on the change at 0 is not b any more, b is the end.
        reads(filter, first + "001 00111111 000001111 1" + marks(2), "0 5 15/0, 20/0", 37, 0);
    }

    private void drawnRowsThatAreCut() {
        FaxFilter filter = filter(2, 20);
        reads(filter, "011" + marks(2), "20/1", 3, 0);
        reads(filter, "000011" + marks(2), "20/1", 6, 0);
        reads(filter, "0000011" + marks(2), "20/1", 7, 0);
        reads(filter, "0000010 011" + marks(2), "17 3/1", 10, 0);
        // ACROSS: white 14, and dark 6, 7; white 20, and dark 0, 2; white 21, and dark 0.
        reads(filter, "001 011000 0010" + marks(2), "14 6/0", 13, 0);
        reads(filter, "001 011000 00011" + marks(2), "14 6/1", 14, 0);
        reads(filter, "001 0100111 000001111" + marks(2), "20/0", 19, 0);
        reads(filter, "001 0100111 11" + marks(2), "20/1", 12, 0);
        reads(filter, "001 0100110 000001111" + marks(2), "20/1", 19, 0);
        // Cut, then without a code for the dark run: damaged.
        reads(filter, FIRST + "001 01110 1111" + MARK, "5 5 10/0, 20/3", 24, 1);
        // Cut, then bits that end: no row.
        reads(filter, FIRST + "001 01110 1111 00000000", "5 5 10/0", 24, 0);
    }

    private void drawnRowsThatAreDamaged() {
        FaxFilter filter = filter(2, 20);
        // Seven bits that begin with none of the nine, or fewer.
        reads(filter, FIRST + "0000000 1", "5 5 10/0, 20/3", 12, 1);
        reads(filter, FIRST + "0000001 1", "5 5 10/0, 20/3", 12, 1);
        reads(filter, FIRST + "0000", "5 5 10/0", 12, 0);
        reads(filter, FIRST + "000010 000000", "5 5 10/0", 18, 0);
        reads(filter, FIRST + "1 1" + MARK, "5 5 10/0, 20/3", 14, 1);
        reads(filter, "0000 0000", "20/3", 0, 1);
        // Before a, and at a: dark from 8 on, b is 10 and then 7, or at 9 and then 9.
        reads(filter, FIRST + "0000011 0000010 1", "5 5 10/0, 20/3", 26, 1);
        reads(filter, FIRST + "0000011 000010 1", "5 5 10/0, 20/3", 25, 1);
        readsSome(2, filter, FIRST + "0000011 010 1 1", "5 5 10/0, 8 1 11/0", 23);
        // No code of a run: ACROSS, and the codes before, are passed.
        reads(filter, FIRST + "001" + MARK, "5 5 10/0, 20/3", 15, 1);
        reads(filter, FIRST + "001 1111" + MARK, "5 5 10/0, 20/3", 19, 1);
        reads(filter, FIRST + "001 01111" + MARK, "5 5 10/0, 20/3", 20, 1);
        reads(filter, FIRST + "001 1111 0000 0", "5 5 10/0", 19, 0);
        filter.setting(3, true);
        reads(filter, FIRST + "0000000 1", "5 5 10/0, 5 5 10/3", 12, 1);
        reads(filter, FIRST + "0001 001 1111 10 0000000 1", "5 5 10/0, 5 5 10/3", 25, 1);
        reads(filter, "0000000 1", "20/3", 0, 1);
    }

    private void damagedRowsInMixed() {
        FaxFilter filter = filter(1, 20, 3);
        String row = MARK + "1 1100 0011 10001";
        String end = MARK + "1" + MARK;
        // A row goes by the one that stands for a damaged one above it.
        String bits = row + MARK + "0 0000000 1" + MARK + "0 1 1 1" + end;
        reads(filter, bits, "5 5 10/0, 5 5 10/3, 5 5 10/0", 26 + 21 + 16 + 13, 1);
        filter.setting(3, false);
        reads(filter, bits, "5 5 10/0, 20/3, 20/0", 26 + 21 + 16 + 13, 1);
        // In a drawn row nothing but 0 to the end is damage; no mark comes behind it.
        reads(filter, row + MARK + "0 0 00000000 00000000", "5 5 10/0, 20/3", 56, 1);
        // A mark in ACROSS is damage, too, and is found again.
        reads(filter, row + MARK + "0 001 1111" + row + end, "5 5 10/0, 20/3, 5 5 10/0", 26 + 20 + 26 + 13, 1);
    }

    private void most() {
        FaxFilter filter = filter(0, 10);
        filter.row();
        for (int most : new int[] {-1, 25, Integer.MIN_VALUE, Integer.MAX_VALUE}) {
            throwsArgument("read " + most, () -> filter.read(most));
            checks.same("a call that throws changes nothing", filter.told(2), 1);
        }
        collect(filter, "10001".repeat(32));
        checks.same("read 24", filter.read(24), 24);
        checks.same("bits of 24", filter.told(5), 120);
        checks.same("read 3", filter.read(3), 3);
        checks.same("rows of 3", filter.told(2), 3);
        checks.same("bits of 3", filter.told(5), 15);
        checks.same("read 0", filter.read(0), 0);
        checks.same("rows of 0", filter.told(2), 0);
        checks.same("bits of 0", filter.told(5), 0);
        checks.same("bytes stay", filter.told(3), 20);
        filter.read(2);
        checks.same("a row behind those read", filter.row(), 2);
        checks.same("that is white", picture(filter), "10/0, 10/0, 10/0");
    }
}
