import java.util.function.IntSupplier;

/** What the tests of the promises have in common: pictures and bits as texts, and wrong calls. */
abstract class Promise {
    static final String MARK = "000000000001";
    static final int[] WRONG_ROWS = {-1, 1, 23, 24, 25, Integer.MIN_VALUE, Integer.MAX_VALUE};

    final Checks checks = new Checks();

    static FaxFilter filter(int kind, int columns, int... settings) {
        FaxFilter filter = new FaxFilter(kind, columns);
        for (int what : settings) {
            filter.setting(what, true);
        }
        return filter;
    }

    static String marks(int count) {
        return MARK.repeat(count);
    }

    /** Without the spaces, and with bits 0 to the end of the byte. */
    static String bytesOf(String spaced) {
        String bits = spaced.replace(" ", "");
        return bits + "0".repeat(-bits.length() & 7);
    }

    /** Dark places into a row: from the first number to before the second, and so on. */
    static void darken(FaxFilter filter, int row, int... ends) {
        for (int i = 0; i + 1 < ends.length; i += 2) {
            filter.put(row, ends[i], ends[i + 1], true);
        }
    }

    /** All rows as runs, each row with its state behind a slash. */
    static String picture(FaxFilter filter) {
        StringBuilder text = new StringBuilder();
        for (int row = 0; row < filter.told(2); row++) {
            text.append(row == 0 ? "" : ", ");
            for (int i = 0; i < filter.runs(row); i++) {
                text.append(i == 0 ? "" : " ").append(filter.run(row, i));
            }
            text.append('/').append(filter.state(row));
        }
        return text.toString();
    }

    void collect(FaxFilter filter, String spaced) {
        String bits = bytesOf(spaced);
        for (int i = 0; i < bits.length(); i += 8) {
            checks.same("add", filter.add(Integer.parseInt(bits.substring(i, i + 8), 2), 1) ? 1 : 0, 1);
        }
    }

    /** Reads these bits alone: the picture, the bits passed and the damaged rows that are due. */
    void reads(FaxFilter filter, String bits, String picture, int passed, int damaged) {
        reads(24, filter, bits, picture, passed, damaged);
    }

    /** As reads, but only so many rows are asked for, and none is damaged. */
    void readsSome(int most, FaxFilter filter, String bits, String picture, int passed) {
        reads(most, filter, bits, picture, passed, 0);
    }

    void reads(int most, FaxFilter filter, String bits, String picture, int passed, int damaged) {
        filter.drop();
        collect(filter, bits);
        int collected = filter.told(3);
        int rows = filter.read(most);
        checks.same("rows of " + bits, rows, filter.told(2));
        checks.same("reading " + bits, picture(filter), picture);
        checks.same("bits passed of " + bits, filter.told(5), passed);
        checks.same("damaged rows of " + bits, filter.told(6), damaged);
        checks.same("bytes that stay of " + bits, filter.told(3), collected);
    }

    /** Writes: these bits, and bits 0 to the end of the byte, are due. */
    void writes(FaxFilter filter, String spaced) {
        String due = bytesOf(spaced);
        int count = filter.write();
        StringBuilder got = new StringBuilder();
        for (int i = 0; i < count; i++) {
            got.append(Integer.toBinaryString(256 + filter.octet(i)).substring(1));
        }
        checks.same("writing", got.toString(), due);
        checks.same("bytes written", filter.told(4), due.length() / 8);
    }

    void throwsIndex(String what, IntSupplier call) {
        checks.same(what, Checks.answer(call), Checks.AIOOBE);
    }

    void throwsArgument(String what, IntSupplier call) {
        checks.same(what, Checks.answer(call), Checks.IAE);
    }

    void throwsArgument(String what, Runnable call) {
        checks.same(what, Checks.answer(call), Checks.IAE);
    }

    void throwsIndex(String what, Runnable call) {
        checks.same(what, Checks.answer(call), Checks.AIOOBE);
    }
}
