import java.util.Random;

/** Many runs of calls, made by a fixed rule, on a FaxFilter and on the Model at once. */
public final class ModelTest {
    private static final Checks CHECKS = new Checks();
    private static final int[] WIDTHS = {1, 2, 5, 8, 17, 63, 64, 65, 100, 128, 129, 333, 640, 699, 700};

    private final Random random;
    private final FaxFilter filter;
    private final Model model;
    private final String name;

    private ModelTest(int seed) {
        random = new Random(seed);
        int kind = random.nextInt(3);
        int columns = random.nextBoolean() ? WIDTHS[random.nextInt(WIDTHS.length)] : 1 + random.nextInt(60);
        name = "seed " + seed + ", kind " + kind + ", columns " + columns;
        filter = new FaxFilter(kind, columns);
        model = new Model(kind, columns);
    }

    public static void main(String[] args) {
        for (int seed = 0; seed < 6000 && CHECKS.areAllRight(); seed++) {
            new ModelTest(seed).go();
        }
        CHECKS.end("ModelTest");
    }

    private void go() {
        for (int round = 0; round < 6; round++) {
            chooseSettings();
            if (random.nextInt(3) > 0) {
                drawPicture();
                compareWritten();
            }
            collect();
            int most = random.nextInt(4) == 0 ? random.nextInt(25) : 24;
            CHECKS.same(name + ", read", filter.read(most), model.read(most));
            compareAll();
            if (random.nextInt(4) == 0) {
                compareWritten();
            }
        }
    }

    private void chooseSettings() {
        for (int what = 0; what < 4; what++) {
            boolean on = random.nextBoolean();
            filter.setting(what, on);
            model.settings[what] = on;
        }
    }

    private void drawPicture() {
        if (random.nextInt(3) > 0) {
            filter.clear();
            model.rows.clear();
            model.states.clear();
        }
        int rows = random.nextInt(model.columns > 200 ? 6 : 12);
        int style = random.nextInt(4);
        for (int i = 0; i < rows && model.rows.size() < 24; i++) {
            CHECKS.same(name + ", row", filter.row(), model.rows.size());
            model.rows.add(new boolean[model.columns]);
            model.states.add(0);
            if (style == 0 && i > 0) {
                likeAbove(model.rows.size() - 1);
            } else {
                int puts = random.nextInt(style == 1 ? 40 : 6);
                for (int j = 0; j < puts; j++) {
                    putSome(model.rows.size() - 1);
                }
            }
        }
    }

    /** A row that differs a little from the one above: much of it goes by the seven and by PASS. */
    private void likeAbove(int row) {
        boolean[] above = model.rows.get(row - 1);
        int shift = random.nextInt(9) - 4;
        for (int x = 0; x < model.columns; x++) {
            int from = x - shift;
            if (from >= 0 && from < model.columns && above[from]) {
                put(row, x, x + 1, true);
            }
        }
        if (random.nextBoolean()) {
            putSome(row);
        }
    }

    private void putSome(int row) {
        int x = random.nextInt(model.columns);
        int most = random.nextBoolean() ? Math.min(6, model.columns - x) : model.columns - x;
        put(row, x, x + 1 + random.nextInt(most), random.nextInt(3) > 0);
    }

    private void put(int row, int x, int to, boolean dark) {
        filter.put(row, x, to, dark);
        for (int i = x; i < to; i++) {
            model.rows.get(row)[i] = dark;
        }
        model.states.set(row, 0);
    }

    private void compareWritten() {
        CHECKS.same(name + ", write", filter.write(), model.write());
        StringBuilder got = new StringBuilder();
        for (int i = 0; i < model.written.size(); i++) {
            int at = i;
            got.append(i == 0 ? "[" : ", ").append(Checks.answer(() -> filter.octet(at)));
        }
        CHECKS.same(name + ", octets", got.append(got.length() == 0 ? "[]" : "]").toString(), model.written.toString());
        CHECKS.same(name + ", octet behind", Checks.answer(() -> filter.octet(model.written.size())), Checks.AIOOBE);
    }

    private void collect() {
        int way = random.nextInt(6);
        if (way < 2 || model.written.isEmpty() && way < 4) {
            CHECKS.same(name + ", take", filter.take(), Math.min(400, model.written.size()));
            model.collected.clear();
            model.collected.addAll(model.written.subList(0, Math.min(400, model.written.size())));
            return;
        }
        String bits = way < 4 ? damagedBits() : way == 4 ? inventedBits() : randomBits();
        filter.drop();
        model.collected.clear();
        for (int i = 0; i + 8 <= bits.length() && model.collected.size() < 400; i += 8) {
            int octet = Integer.parseInt(bits.substring(i, i + 8), 2);
            CHECKS.same(name + ", add", filter.add(octet | 0x5A00L, 1) ? 1 : 0, 1);
            model.collected.add(octet);
        }
    }

    private String damagedBits() {
        StringBuilder bits = new StringBuilder();
        for (int octet : model.written) {
            bits.append(Integer.toBinaryString(256 + octet).substring(1));
        }
        int hits = 1 + random.nextInt(4);
        for (int i = 0; i < hits && bits.length() > 0; i++) {
            int at = random.nextInt(bits.length());
            int kind = random.nextInt(4);
            if (kind == 0) {
                bits.deleteCharAt(at);
            } else if (kind == 1) {
                bits.insert(at, random.nextBoolean() ? "1" : "00");
            } else {
                bits.setCharAt(at, bits.charAt(at) == '0' ? '1' : '0');
            }
        }
        if (random.nextInt(4) == 0 && bits.length() > 0) {
            bits.setLength(random.nextInt(bits.length()));
        }
        return bits.append("00000000", 0, -bits.length() & 7).toString();
    }

    /** Codes, ways, marks and zeros in an order that is often nearly right. */
    private String inventedBits() {
        String[] ways = {"1", "011", "010", "000011", "000010", "0000011", "0000010", "0001", "0001"};
        StringBuilder bits = new StringBuilder();
        boolean dark = false;
        int pieces = random.nextInt(150);
        for (int i = 0; i < pieces; i++) {
            int piece = random.nextInt(20);
            if (piece == 0) {
                bits.append("0".repeat(random.nextInt(14))).append('1');
                dark = false;
            } else if (piece == 1) {
                bits.append("000000000001").append(model.kind == 1 ? random.nextBoolean() ? "1" : "0" : "");
                dark = false;
            } else if (piece == 2) {
                bits.append(Model.code(random.nextBoolean(), 64 * (1 + random.nextInt(10))));
            } else if (piece < 8 && model.kind > 0) {
                bits.append(ways[random.nextInt(ways.length)]);
            } else {
                if (model.kind > 0 && random.nextBoolean()) {
                    bits.append("001").append(Model.runCode(dark, someRun())).append(Model.runCode(!dark, someRun()));
                } else {
                    bits.append(Model.runCode(dark, someRun()));
                    dark = !dark;
                }
            }
        }
        bits.append("0".repeat(random.nextInt(3) == 0 ? random.nextInt(30) : 0));
        return bits.append("00000000", 0, -bits.length() & 7).toString();
    }

    private int someRun() {
        return random.nextInt(random.nextInt(4) == 0 ? 701 : Math.min(701, 2 + model.columns / 2));
    }

    private String randomBits() {
        StringBuilder bits = new StringBuilder();
        int count = 8 * random.nextInt(60);
        int ones = 1 + random.nextInt(12);
        for (int i = 0; i < count; i++) {
            bits.append(random.nextInt(ones) == 0 ? '1' : '0');
        }
        return bits.toString();
    }

    private void compareAll() {
        int[] told = {model.kind, model.columns, model.rows.size(), model.collected.size(), model.written.size(),
            model.passed, model.damaged};
        for (int what = 0; what < told.length; what++) {
            CHECKS.same(name + ", told " + what, filter.told(what), told[what]);
        }
        for (int row = 0; row < model.rows.size(); row++) {
            CHECKS.same(name + ", state " + row, filter.state(row), model.states.get(row));
            compareRow(row);
        }
        CHECKS.same(name + ", state behind", Checks.answer(() -> filter.state(model.rows.size())), Checks.AIOOBE);
    }

    private void compareRow(int row) {
        boolean[] due = model.rows.get(row);
        StringBuilder got = new StringBuilder();
        StringBuilder want = new StringBuilder();
        for (int x = 0; x < due.length; x++) {
            got.append(filter.bit(row, x));
            want.append(due[x] != model.settings[2] ? 1 : 0);
        }
        CHECKS.same(name + ", bits of row " + row, got.toString(), want.toString());
        int runs = filter.runs(row);
        StringBuilder lengths = new StringBuilder();
        for (int i = 0; i < runs; i++) {
            lengths.append(i == 0 ? "[" : ", ").append(filter.run(row, i));
        }
        CHECKS.same(name + ", runs of row " + row, lengths.append("]").toString(), Model.runs(due).toString());
        CHECKS.same(name + ", run behind", Checks.answer(() -> filter.run(row, runs)), Checks.AIOOBE);
    }
}
