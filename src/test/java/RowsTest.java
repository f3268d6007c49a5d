/** Promises 8 to 14: state, row, clear, put, bit, run, runs. */
public final class RowsTest extends Promise {
    public static void main(String[] args) {
        RowsTest test = new RowsTest();
        test.promise08State();
        test.promise09Row();
        test.promise10Clear();
        test.promise11Put();
        test.promise11WrongPut();
        test.promise12Bit();
        test.promise13And14Runs();
        test.checks.end("RowsTest");
    }

    private void promise08State() {
        FaxFilter filter = filter(0, 10, 0);
        throwsIndex("state of no row", () -> filter.state(0));
        String bits = MARK + "10001" + MARK + "10000" + MARK + "10011" + MARK + "00001" + marks(2);
        reads(filter, bits, "10/0, 10/1, 10/2, 10/3", 4 * 17 + 12, 1);
        for (int row : new int[] {-1, 4, 24, Integer.MIN_VALUE, Integer.MAX_VALUE}) {
            throwsIndex("state " + row, () -> filter.state(row));
        }
        for (int row = 0; row < 4; row++) {
            int at = row;
            throwsArgument("a wrong put", () -> filter.put(at, 3, 3, false));
            checks.same("state after a wrong put", filter.state(row), row);
            filter.put(row, 0, 1, false);
            checks.same("state after a put", filter.state(row), 0);
        }
        checks.same("damaged rows stay told", filter.told(6), 1);
        filter.read(24);
        checks.same("state, read again", filter.state(3), 3);
        reads(filter, MARK + "10011" + marks(2), "10/2", 17 + 12, 0);
        filter.put(0, 9, 10, true);
        checks.same("state of the first row after a put", filter.state(0), 0);
        reads(filter, MARK + "10001" + MARK + "10001" + marks(2), "10/0, 10/0", 2 * 17 + 12, 0);
        filter.clear();
        for (int row = 0; row < 4; row++) {
            filter.row();
        }
        checks.same("state of a new row", filter.state(3), 0);
    }

    private void promise09Row() {
        FaxFilter filter = filter(1, 70);
        for (int row = 0; row < 24; row++) {
            checks.same("row", filter.row(), row);
            checks.same("rows", filter.told(2), row + 1);
        }
        for (int i = 0; i < 3; i++) {
            checks.same("a row too many", Checks.answer(() -> filter.row()), Checks.UOE);
            checks.same("still 24 rows", filter.told(2), 24);
        }
        darken(filter, 0, 0, 70);
        darken(filter, 23, 60, 70);
        checks.same("others stay white", filter.runs(22), 1);
        checks.same("the last row", filter.run(23, 1), 10);
        filter.clear();
        checks.same("row again", filter.row(), 0);
        checks.same("white again", picture(filter), "70/0");
    }

    private void promise10Clear() {
        FaxFilter filter = filter(0, 10, 2);
        filter.clear();
        checks.same("none", filter.told(2), 0);
        filter.row();
        filter.write();
        filter.take();
        filter.read(24);
        filter.clear();
        checks.same("no rows", filter.told(2), 0);
        checks.same("collected stay", filter.told(3), 1);
        checks.same("written stay", filter.told(4), 1);
        checks.same("passed stay", filter.told(5), 5);
        checks.same("octet stays", filter.octet(0), 0b10001000);
        throwsIndex("the row is gone", () -> filter.bit(0, 0));
        checks.same("nothing to write", filter.write(), 0);
        checks.same("read again", filter.read(24), 1);
        checks.same("setting stays", filter.bit(0, 0), 1);
    }

    private void promise11Put() {
        FaxFilter filter = filter(0, 130);
        filter.row();
        filter.row();
        filter.put(0, 0, 130, true);
        checks.same("all dark", picture(filter), "0 130/0, 130/0");
        filter.put(0, 63, 65, false);
        checks.same("white within", picture(filter), "0 63 2 65/0, 130/0");
        filter.put(0, 129, 130, false);
        checks.same("the last place", picture(filter), "0 63 2 64 1/0, 130/0");
        filter.put(0, 0, 64, false);
        checks.same("up to 64", picture(filter), "65 64 1/0, 130/0");
        filter.put(0, 60, 128, true);
        filter.put(0, 64, 128, false);
        checks.same("64 places from 64 on", picture(filter), "60 4 64 1 1/0, 130/0");
        filter.put(1, 5, 6, true);
        filter.put(1, 5, 6, true);
        checks.same("one place twice", picture(filter), "60 4 64 1 1/0, 5 1 124/0");
    }

    private void promise11WrongPut() {
        FaxFilter filter = filter(0, 130);
        throwsIndex("put into no row", () -> filter.put(0, 0, 1, true));
        filter.row();
        for (int row : WRONG_ROWS) {
            throwsIndex("put into row " + row, () -> filter.put(row, 0, 1, true));
            throwsIndex("the row comes first, " + row, () -> filter.put(row, 5, 2, true));
        }
        int[][] wrong = {{-1, 5}, {5, 5}, {6, 5}, {0, 131}, {0, 0}, {130, 131}, {130, 130}, {0, -1},
            {Integer.MIN_VALUE, 3}, {3, Integer.MAX_VALUE}, {Integer.MAX_VALUE, Integer.MIN_VALUE}};
        for (int[] places : wrong) {
            throwsArgument("put " + places[0] + " " + places[1], () -> filter.put(0, places[0], places[1], true));
        }
        checks.same("nothing was put", picture(filter), "130/0");
    }

    private void promise12Bit() {
        FaxFilter filter = filter(2, 65);
        throwsIndex("bit of no row", () -> filter.bit(0, 0));
        filter.row();
        darken(filter, 0, 2, 4, 63, 65);
        for (int x = 0; x < 65; x++) {
            int due = x == 2 || x == 3 || x >= 63 ? 1 : 0;
            checks.same("bit", filter.bit(0, x), due);
            filter.setting(2, true);
            checks.same("bit the other way round", filter.bit(0, x), 1 - due);
            filter.setting(2, false);
        }
        for (int row : WRONG_ROWS) {
            throwsIndex("bit of row " + row, () -> filter.bit(row, 0));
        }
        for (int x : new int[] {-1, 65, 66, 128, Integer.MIN_VALUE, Integer.MAX_VALUE}) {
            throwsIndex("bit at " + x, () -> filter.bit(0, x));
        }
    }

    private void promise13And14Runs() {
        FaxFilter filter = filter(0, 700);
        throwsIndex("runs of no row", () -> filter.runs(0));
        throwsIndex("run of no row", () -> filter.run(0, 0));
        filter.row();
        checks.same("white", picture(filter), "700/0");
        filter.put(0, 0, 700, true);
        checks.same("dark", picture(filter), "0 700/0");
        filter.put(0, 100, 400, false);
        checks.same("white within", picture(filter), "0 100 300 300/0");
        filter.put(0, 0, 700, true);
        for (int x = 1; x < 700; x += 2) {
            filter.put(0, x, x + 1, false);
        }
        checks.same("by turns", filter.runs(0), 701);
        checks.same("the first", filter.run(0, 0), 0);
        checks.same("the second", filter.run(0, 1), 1);
        checks.same("the last", filter.run(0, 700), 1);
        for (int i : new int[] {701, 702, -1, Integer.MIN_VALUE, Integer.MAX_VALUE}) {
            throwsIndex("run " + i, () -> filter.run(0, i));
        }
        for (int row : WRONG_ROWS) {
            throwsIndex("runs of row " + row, () -> filter.runs(row));
            throwsIndex("run of row " + row, () -> filter.run(row, 0));
        }
        FaxFilter one = filter(0, 1);
        one.row();
        checks.same("one white", picture(one), "1/0");
        one.put(0, 0, 1, true);
        checks.same("one dark", picture(one), "0 1/0");
    }
}
