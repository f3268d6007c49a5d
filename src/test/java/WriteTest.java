/** Promise 15: write. */
public final class WriteTest extends Promise {
    /** How kind 2 writes a first row of 5 white, 5 dark, 10 white: ACROSS, then as the row's end. */
    private static final String FIVE_FIVE_TEN = "001 1100 0011 1";

    public static void main(String[] args) {
        WriteTest test = new WriteTest();
        test.plainRows();
        test.longRuns();
        test.mixedRows();
        test.drawnRows();
        test.drawnRowsByEachWay();
        test.drawnRowsAtTheFirstPlace();
        test.dense();
        test.densest();
        test.checks.end("WriteTest");
    }

    private void plainRows() {
        FaxFilter filter = filter(0, 10);
        writes(filter, "");
        filter.row();
        writes(filter, "10001");
        darken(filter, 0, 0, 1);
        writes(filter, "00111111 011 10010");
        darken(filter, 0, 9, 10);
        writes(filter, "00111111 011 10011 011");
        filter.row();
        writes(filter, "00111111 011 10011 011 10001");
        filter.setting(1, true);
        writes(filter, "00111111 011 10011 011 00000 10001");
        filter.setting(0, true);
        // 4 + 12 + 19 bits: the next mark is to end at 48; the six at the end are not aligned.
        writes(filter, "0000" + MARK + "00111111 011 10011 011 0" + MARK + "10001" + marks(6));
        filter.clear();
        writes(filter, marks(6));
        filter.setting(0, false);
        writes(filter, "");
    }

    private void longRuns() {
        FaxFilter filter = filter(0, 700);
        filter.row();
        writes(filter, "00010011 00011110");
        darken(filter, 0, 0, 640);
        writes(filter, "00111111 000000000011 000001111 00011110");
        filter.put(0, 63, 640, false);
        // Dark 63; white 637 = 576 and 61.
        writes(filter, "00111111 000000001101 00010100 00011101");
        darken(filter, 0, 0, 64);
        // Dark 64 = 64 and 0; white 636 = 576 and 60.
        writes(filter, "00111111 000000001100 000001111 00010100 00011110");
        filter.put(0, 0, 700, false);
        darken(filter, 0, 64, 128, 192, 193);
        // White 64, dark 64, white 64, dark 1; white 507 = 448 and 59.
        writes(filter, "01111 00111111 000000001100 000001111 01111 00111111 011 00010110 00011111");
    }

    private void mixedRows() {
        FaxFilter filter = filter(1, 10);
        String end = (MARK + "1").repeat(6);
        writes(filter, end);
        for (int row = 0; row < 6; row++) {
            filter.row();
        }
        darken(filter, 3, 4, 6);
        darken(filter, 4, 4, 6);
        darken(filter, 5, 4, 6);
        String all = MARK + "1 10001" + MARK + "0 1" + MARK + "0 1" + MARK + "0 001 1101 11 1"
            + MARK + "1 1101 11 1101" + MARK + "0 111" + end;
        writes(filter, all);
        filter.setting(0, true);
        writes(filter, all);
        filter.setting(1, true);
        writes(filter, "0000" + MARK + "1 10001 000000" + MARK + "0 1 00" + MARK + "0 1 00" + MARK
            + "0 001 1101 11 1 0" + MARK + "1 1101 11 1101 0" + MARK + "0 111" + end);
    }

    private void drawnRows() {
        FaxFilter filter = filter(2, 10);
        writes(filter, marks(2));
        filter.row();
        filter.row();
        writes(filter, "1 1" + marks(2));
        filter.setting(1, true);
        writes(filter, "1 0000000 1 0000000" + marks(2));
        filter.clear();
        writes(filter, marks(2));
    }

    private void drawnRowsByEachWay() {
        second("1 1 1", 5, 10);
        second("011 000010 1", 6, 8);
        second("000010 0000011 1", 3, 13);
        second("0000010 010 1", 2, 9);
        second("010 011 1", 4, 11);
        second("000011 000011 1", 7, 12);
        second("0000011 1 1", 8, 10);
        second("1 0000010 1", 5, 7);
        second("0001 1");
        second("0001 001 1111 10 1", 12, 15);
        // The change at 10 is not before that at 10: no PASS, but ACROSS.
        second("001 10001 11 1", 10, 12);
        // Behind an ACROSS to 3, PASS to 10.
        second("001 011011 11 0001 1", 1, 3);
        second("001 00111111 000000111", 0, 20);
        // Dark up to the end: 15 places across, then white 0.
        second("1 001 000001100 00111111", 5, 20);
        // The end of the row stands for changes that are not there: 17 is 3 before it.
        second("1 1 0000010 1", 5, 10, 17, 20);
        second("1 1 001 1011 010", 5, 10, 16, 20);
    }

    /** A row below one of 5 white, 5 dark, 10 white. */
    private void second(String due, int... ends) {
        FaxFilter filter = filter(2, 20);
        filter.row();
        filter.row();
        darken(filter, 0, 5, 10);
        darken(filter, 1, ends);
        writes(filter, FIVE_FIVE_TEN + due + marks(2));
    }

    private void drawnRowsAtTheFirstPlace() {
        FaxFilter filter = filter(2, 20);
        filter.row();
        filter.row();
        darken(filter, 0, 0, 5);
        darken(filter, 1, 0, 5);
        String first = "001 00111111 0011 1";
        writes(filter, first + "1 1 1" + marks(2));
        filter.put(1, 0, 2, false);
        writes(filter, first + "000011 1 1" + marks(2));
        filter.put(1, 0, 20, false);
        writes(filter, first + "0001 1" + marks(2));
        FaxFilter one = filter(2, 1);
        one.row();
        one.row();
        darken(one, 0, 0, 1);
        darken(one, 1, 0, 1);
        // 1 before the end of the white row above; then at the change above, and at its end.
        writes(one, "010 1 1 1" + marks(2));
    }

    private void dense() {
        FaxFilter low = filter(0, 1);
        StringBuilder due = new StringBuilder();
        for (int row = 0; row < 24; row++) {
            low.row();
            low.put(row, 0, 1, row % 2 == 0);
            due.append(row % 2 == 0 ? "00111111 011" : "011011");
        }
        writes(low, due.toString());
        FaxFilter wide = filter(0, 700);
        wide.row();
        StringBuilder row = new StringBuilder("00111111");
        for (int x = 0; x < 700; x += 2) {
            wide.put(0, x, x + 1, true);
            row.append("011 011011");
        }
        writes(wide, row.toString());
        checks.same("taken", wide.take(), 395);
        checks.same("read back", wide.read(24), 1);
        checks.same("runs back", wide.runs(0), 701);
    }

    /** As many bits a place as there can be, in 24 rows, each shifted against the one above. */
    private void densest() {
        for (int kind = 0; kind <= 2; kind++) {
            for (int columns : new int[] {1, 2, 3, 7, 40}) {
                for (int shift = 0; shift <= 3; shift++) {
                    densest(kind, columns, shift, 2 + kind % 2);
                }
            }
        }
    }

    private void densest(int kind, int columns, int shift, int period) {
        FaxFilter filter = filter(kind, columns, 0, 1);
        Model model = new Model(kind, columns);
        model.settings[0] = true;
        model.settings[1] = true;
        for (int row = 0; row < 24; row++) {
            filter.row();
            model.rows.add(new boolean[columns]);
            model.states.add(0);
            for (int x = Math.max(0, 72 - row * shift) % period; x < columns; x += period) {
                filter.put(row, x, x + 1, true);
                model.rows.get(row)[x] = true;
            }
        }
        String name = "kind " + kind + ", columns " + columns + ", shift " + shift;
        checks.same(name, filter.write(), model.write());
        for (int i = 0; i < model.written.size(); i++) {
            checks.same(name + ", byte " + i, filter.octet(i), model.written.get(i));
        }
    }
}
