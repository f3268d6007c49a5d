/** Promises 1 to 6 and 16: a new object, told, setting, add, take, drop, octet. */
public final class BytesTest extends Promise {
    public static void main(String[] args) {
        BytesTest test = new BytesTest();
        test.promise01New();
        test.promise02Told();
        test.promise03SettingsOfBits();
        test.promise03SettingsOfPictures();
        test.promise04Add();
        test.promise04AddOrder();
        test.promise05Take();
        test.promise05TakeMuch();
        test.promise06Drop();
        test.promise16Octet();
        test.checks.end("BytesTest");
    }

    private void promise01New() {
        int[][] kinds = {{0, 0}, {1, 1}, {2, 2}, {-1, 0}, {3, 2}, {Integer.MIN_VALUE, 0}, {Integer.MAX_VALUE, 2}};
        for (int[] kind : kinds) {
            checks.same("kind " + kind[0], new FaxFilter(kind[0], 9).told(0), kind[1]);
        }
        int[][] columns = {{1, 1}, {700, 700}, {0, 1}, {701, 700}, {-7, 1}, {64, 64}, {Integer.MIN_VALUE, 1},
            {Integer.MAX_VALUE, 700}};
        for (int[] count : columns) {
            checks.same("columns " + count[0], new FaxFilter(1, count[0]).told(1), count[1]);
        }
        FaxFilter fresh = new FaxFilter(0, 10);
        for (int what = 2; what <= 6; what++) {
            checks.same("new, told " + what, fresh.told(what), 0);
        }
        fresh.row();
        fresh.row();
        checks.same("setting 2 is off", fresh.bit(0, 0), 0);
        writes(fresh, "10001 10001");
        reads(fresh, "10010 011 0000 00000000", "9 1/0, 10/3", 8, 1);
    }

    private void promise02Told() {
        FaxFilter filter = filter(0, 10);
        for (int what : new int[] {-1, 7, 8, Integer.MIN_VALUE, Integer.MAX_VALUE}) {
            throwsArgument("told " + what, () -> filter.told(what));
        }
        filter.row();
        filter.row();
        checks.same("rows", filter.told(2), 2);
        filter.write();
        checks.same("bytes written", filter.told(4), 2);
        filter.add(1, 5);
        checks.same("bytes collected", filter.told(3), 5);
        filter.take();
        filter.read(24);
        checks.same("bits passed", filter.told(5), 10);
        checks.same("damaged rows", filter.told(6), 0);
        filter.drop();
        filter.clear();
        checks.same("bits passed stay told", filter.told(5), 10);
        // The codes of a row that is not there count: a make, behind which bits end.
        reads(filter, "10001 01111 000000", "10/0", 10, 0);
        filter.setting(0, true);
        // All bits count where a mark was looked for in vain.
        reads(filter, "1111 1111 0000 0000 0001 1111", "", 24, 0);
        reads(filter, MARK + "10001 00001 00", "10/0", 24, 0);
        reads(filter, MARK + "0000 1111", "10/3", 24, 1);
        filter.clear();
        checks.same("damaged rows stay told", filter.told(6), 1);
        filter.read(0);
        checks.same("bits passed for no row", filter.told(5), 0);
        checks.same("damaged rows of none", filter.told(6), 0);
    }

    private void promise03SettingsOfBits() {
        FaxFilter filter = filter(0, 10);
        for (int what : new int[] {-1, 4, 5, Integer.MIN_VALUE, Integer.MAX_VALUE}) {
            throwsArgument("setting " + what, () -> filter.setting(what, true));
            throwsArgument("setting off " + what, () -> filter.setting(what, false));
        }
        filter.row();
        filter.row();
        writes(filter, "10001 10001");
        filter.setting(0, true);
        writes(filter, MARK + "10001" + MARK + "10001" + marks(6));
        filter.setting(1, true);
        writes(filter, "0000" + MARK + "10001 0000000" + MARK + "10001" + marks(6));
        filter.setting(0, false);
        writes(filter, "10001 000 10001 000");
        filter.setting(1, false);
        writes(filter, "10001 10001");
        FaxFilter drawn = filter(2, 10, 0);
        drawn.row();
        writes(drawn, "1" + marks(2));
        reads(drawn, "1 1" + marks(2), "10/0, 10/0", 2, 0);
        // Settings at the time of reading count, not those of writing.
        FaxFilter later = filter(0, 10);
        reads(later, MARK + "10001" + marks(2), "10/3", 0, 1);
        later.setting(0, true);
        reads(later, MARK + "10001" + marks(2), "10/0", 29, 0);
    }

    private void promise03SettingsOfPictures() {
        FaxFilter filter = filter(0, 10, 2);
        filter.row();
        checks.same("white with setting 2", filter.bit(0, 3), 1);
        writes(filter, "10001");
        checks.same("runs with setting 2", picture(filter), "10/0");
        filter.put(0, 0, 1, true);
        checks.same("dark with setting 2", filter.bit(0, 0), 0);
        checks.same("dark runs with setting 2", picture(filter), "0 1 9/0");
        filter.setting(2, false);
        checks.same("dark without setting 2", filter.bit(0, 0), 1);
        String damaged = "10010 011 0000 00000000";
        reads(filter, damaged, "9 1/0, 10/3", 8, 1);
        filter.setting(3, true);
        reads(filter, damaged, "9 1/0, 9 1/3", 8, 1);
        reads(filter, "0000 0000 0000", "10/3", 0, 1);
        filter.setting(3, false);
        reads(filter, damaged, "9 1/0, 10/3", 8, 1);
    }

    private void promise04Add() {
        FaxFilter filter = filter(0, 10);
        for (int n : new int[] {0, -1, 9, Integer.MIN_VALUE, Integer.MAX_VALUE}) {
            checks.same("add " + n, filter.add(5, n) ? 1 : 0, 0);
        }
        checks.same("nothing added", filter.told(3), 0);
        for (int i = 0; i < 49; i++) {
            checks.same("add 8", filter.add(-1L, 8) ? 1 : 0, 1);
        }
        checks.same("add 7", filter.add(-1L, 7) ? 1 : 0, 1);
        checks.same("399 bytes", filter.told(3), 399);
        checks.same("one too many", filter.add(-1L, 2) ? 1 : 0, 0);
        checks.same("still 399 bytes", filter.told(3), 399);
        checks.same("the last one", filter.add(-1L, 1) ? 1 : 0, 1);
        for (int n = -1; n <= 9; n++) {
            checks.same("no more, " + n, filter.add(-1L, n) ? 1 : 0, 0);
        }
        checks.same("400 bytes", filter.told(3), 400);
        filter.drop();
        checks.same("add after drop", filter.add(-1L, 8) ? 1 : 0, 1);
    }

    private void promise04AddOrder() {
        FaxFilter filter = filter(0, 10);
        // 93 is white 9, dark 1; 3F A8 are white 0, dark 3, white 7: 00111111 10 1010.
        checks.same("add 2", filter.add(0xFFFF_3F93L, 2) ? 1 : 0, 1);
        checks.same("add 1", filter.add(0x55A8L, 1) ? 1 : 0, 1);
        checks.same("added", filter.told(3), 3);
        filter.read(24);
        checks.same("lowest first", picture(filter), "9 1/0, 0 3 7/0");
        filter.drop();
        filter.setting(0, true);
        // Seven bytes 0, then the highest byte of w: a mark that ends with its first bit.
        checks.same("add 8", filter.add(0x8800_0000_0000_0000L, 8) ? 1 : 0, 1);
        filter.read(24);
        checks.same("the eighth byte", filter.told(5), 57);
    }

    private void promise05Take() {
        FaxFilter filter = filter(0, 10);
        filter.add(1, 3);
        checks.same("take before anything was written", filter.take(), 0);
        checks.same("none collected", filter.told(3), 0);
        filter.row();
        darken(filter, 0, 9, 10);
        filter.write();
        filter.add(-1L, 8);
        filter.put(0, 0, 10, true);
        checks.same("take", filter.take(), 1);
        checks.same("taken", filter.told(3), 1);
        checks.same("written stays", filter.told(4), 1);
        checks.same("read back", filter.read(24), 1);
        checks.same("as it was written", picture(filter), "9 1/0");
        checks.same("add behind", filter.add(0x93, 1) ? 1 : 0, 1);
        filter.read(24);
        checks.same("taken and added", picture(filter), "9 1/0, 9 1/0");
        filter.clear();
        checks.same("nothing written", filter.write(), 0);
        checks.same("take nothing", filter.take(), 0);
        checks.same("nothing taken", filter.told(3), 0);
    }

    private void promise05TakeMuch() {
        FaxFilter filter = filter(0, 700);
        for (int row = 0; row < 4; row++) {
            filter.row();
            for (int x = 0; x < 200; x += 2) {
                filter.put(row, x, x + 1, true);
            }
        }
        // A row: white 0, 100 dark 1, 99 white 1, white 501 = 448 and 53: 8 + 300 + 594 + 16 bits.
        checks.same("much", filter.write(), 4 * 918 / 8);
        checks.same("much taken", filter.take(), 400);
        checks.same("much collected", filter.told(3), 400);
        checks.same("much written", filter.told(4), 459);
        checks.same("rows that are whole", filter.read(24), 3);
        checks.same("runs of the third", filter.runs(2), 201);
        filter.write();
        checks.same("less taken", filter.take(), 345);
    }

    private void promise06Drop() {
        FaxFilter filter = filter(0, 10);
        filter.drop();
        checks.same("drop of none", filter.told(3), 0);
        filter.row();
        filter.write();
        filter.take();
        filter.drop();
        checks.same("dropped", filter.told(3), 0);
        checks.same("written stays", filter.told(4), 1);
        checks.same("rows stay", filter.told(2), 1);
        checks.same("nothing to read", filter.read(24), 0);
        filter.add(0x93, 1);
        checks.same("new ones alone", filter.told(3), 1);
        filter.read(24);
        checks.same("new ones read", picture(filter), "9 1/0");
    }

    private void promise16Octet() {
        FaxFilter filter = filter(0, 10);
        throwsIndex("octet of none", () -> filter.octet(0));
        filter.row();
        darken(filter, 0, 0, 1);
        filter.write();
        checks.same("octet 0", filter.octet(0), 0b00111111);
        checks.same("octet 1", filter.octet(1), 0b01110010);
        for (int i : new int[] {-1, 2, 3, 400, 100000, Integer.MIN_VALUE, Integer.MAX_VALUE}) {
            throwsIndex("octet " + i, () -> filter.octet(i));
        }
        filter.put(0, 0, 1, false);
        checks.same("as written last", filter.octet(1), 0b01110010);
        filter.write();
        checks.same("a high octet", filter.octet(0), 0b10001000);
        throwsIndex("an octet of before", () -> filter.octet(1));
        filter.clear();
        checks.same("stays", filter.octet(0), 0b10001000);
        filter.write();
        throwsIndex("octet of nothing", () -> filter.octet(0));
    }
}
