import java.util.ArrayList;
import java.util.List;
import java.util.Map;
import java.util.TreeMap;

/**
 * The document once more, as plainly as can be, over texts of 0 and 1: what FaxFilter is compared
 * with. It shares no code and no way of holding things with the program.
 */
final class Model {
    private static final class Ends extends RuntimeException {
        private static final long serialVersionUID = 1;
    }

    private static final class NoCode extends RuntimeException {
        private static final long serialVersionUID = 1;
        final boolean behindMake;

        NoCode(boolean behindMake) {
            this.behindMake = behindMake;
        }
    }

    private static final String MARK = "000000000001";
    private static final String[] SEVEN = {"0000010", "000010", "010", "1", "011", "000011", "0000011"};
    private static final Map<Integer, String> WHITE = codes(false);
    private static final Map<Integer, String> DARK = codes(true);

    final int kind;
    final int columns;
    final boolean[] settings = new boolean[4];
    final List<boolean[]> rows = new ArrayList<>();
    final List<Integer> states = new ArrayList<>();
    final List<Integer> collected = new ArrayList<>();
    List<Integer> written = new ArrayList<>();
    int passed;
    int damaged;

    private String bits = "";
    private boolean[] current;
    private int a;
    private int stateNow;

    Model(int kind, int columns) {
        this.kind = kind < 0 ? 0 : kind > 2 ? 2 : kind;
        this.columns = columns < 1 ? 1 : columns > 700 ? 700 : columns;
    }

    // ---- tables ----

    private static boolean in(int n, int from, int to) {
        return from <= n && n <= to;
    }

    private static int howMany(boolean dark, int n) {
        if (!dark) {
            return in(n, 2, 7) ? 4 : in(n, 8, 11) || n == 64 || n == 128 ? 5
                : n == 1 || in(n, 12, 17) ? 6 : in(n, 18, 27) ? 7 : 8;
        }
        return n == 2 || n == 3 ? 2 : n == 1 || n == 4 ? 3 : n == 5 || n == 6 ? 4
            : n == 7 || n == 8 ? 5 : in(n, 9, 12) ? 7 : n == 0 || in(n, 13, 20) ? 9 : 12;
    }

    private static Map<Integer, String> codes(boolean dark) {
        Map<Integer, String> map = new TreeMap<>();
        double v = 1;
        for (int bits = 1; bits < 20; bits++) {
            for (int n = 0; n <= 640; n += n < 64 ? 1 : 64) {
                if (howMany(dark, n) == bits) {
                    v -= 1.0 / (1 << bits);
                    String text = Integer.toBinaryString((int) (v * (1 << bits)));
                    map.put(n, "0".repeat(bits - text.length()) + text);
                }
            }
        }
        return map;
    }

    static String code(boolean dark, int n) {
        return (dark ? DARK : WHITE).get(n);
    }

    static String runCode(boolean dark, int n) {
        return n < 64 ? code(dark, n) : code(dark, n / 64 * 64) + code(dark, n % 64);
    }

    // ---- rows ----

    static List<Integer> runs(boolean[] row) {
        List<Integer> runs = new ArrayList<>();
        boolean colour = false;
        int x = 0;
        while (x < row.length) {
            int n = 0;
            while (x < row.length && row[x] == colour) {
                n++;
                x++;
            }
            runs.add(n);
            colour = !colour;
        }
        return runs;
    }

    private boolean[] above(int row) {
        return row == 0 ? new boolean[columns] : rows.get(row - 1);
    }

    private int b(boolean[] above, int from, boolean present) {
        for (int x = from; x < columns; x++) {
            boolean before = x > 0 && above[x - 1];
            if (above[x] != before && above[x] != present) {
                return x;
            }
        }
        return columns;
    }

    private int c(boolean[] above, int b) {
        for (int x = b + 1; x < columns; x++) {
            if (above[x] != above[x - 1]) {
                return x;
            }
        }
        return columns;
    }

    // ---- writing ----

    boolean marks() {
        return kind == 1 || kind == 0 && settings[0];
    }

    private static String toByte(String s) {
        while (s.length() % 8 != 0) {
            s += "0";
        }
        return s;
    }

    int write() {
        String s = "";
        for (int r = 0; r < rows.size(); r++) {
            boolean plain = kind == 0 || kind == 1 && r % 4 == 0;
            if (marks()) {
                while (settings[1] && (s.length() + 12) % 8 != 0) {
                    s += "0";
                }
                s += MARK + (kind == 1 ? plain ? "1" : "0" : "");
            } else if (settings[1]) {
                s = toByte(s);
            }
            s += plain ? plainRow(rows.get(r)) : drawnRow(rows.get(r), above(r));
        }
        if (marks()) {
            s += (MARK + (kind == 1 ? "1" : "")).repeat(6);
        }
        if (kind == 2) {
            s = (settings[1] ? toByte(s) : s) + MARK + MARK;
        }
        s = toByte(s);
        written = new ArrayList<>();
        for (int i = 0; i < s.length(); i += 8) {
            written.add(Integer.parseInt(s.substring(i, i + 8), 2));
        }
        return written.size();
    }

    private static String plainRow(boolean[] row) {
        StringBuilder s = new StringBuilder();
        boolean dark = false;
        for (int n : runs(row)) {
            s.append(runCode(dark, n));
            dark = !dark;
        }
        return s.toString();
    }

    private String drawnRow(boolean[] row, boolean[] above) {
        StringBuilder s = new StringBuilder();
        int at = 0;
        boolean colour = false;
        boolean first = true;
        while (at < columns) {
            int b = b(above, first ? at : at + 1, colour);
            int c = c(above, b);
            int e = at;
            while (e < columns && row[e] == colour) {
                e++;
            }
            if (c < e) {
                s.append("0001");
                at = c;
            } else if (Math.abs(e - b) <= 3) {
                s.append(SEVEN[e - b + 3]);
                at = e;
                colour = !colour;
            } else {
                int end = e;
                while (end < columns && row[end] != colour) {
                    end++;
                }
                s.append("001").append(runCode(colour, e - at)).append(runCode(!colour, end - e));
                at = end;
            }
            first = false;
        }
        return s.toString();
    }

    // ---- reading ----

    private String rest() {
        return bits.substring(passed);
    }

    private boolean markAtOnce() {
        return rest().matches("0{11,}1.*");
    }

    int read(int most) {
        StringBuilder all = new StringBuilder();
        for (int octet : collected) {
            all.append(Integer.toBinaryString(256 + octet).substring(1));
        }
        bits = all.toString();
        rows.clear();
        states.clear();
        passed = 0;
        damaged = 0;
        try {
            while (rows.size() < most && readOne()) {
                continue;
            }
        } catch (Ends e) {
            // the row that was begun is not there
        }
        return rows.size();
    }

    private boolean readOne() {
        if (marks()) {
            int mark = rest().indexOf("00000000000");
            int one = mark < 0 ? -1 : rest().indexOf('1', mark);
            if (one < 0) {
                passed = bits.length();
                return false;
            }
            passed += one + 1;
        }
        boolean plain = kind == 0;
        if (kind == 1) {
            if (rest().isEmpty()) {
                return false;
            }
            plain = rest().charAt(0) == '1';
            passed++;
        }
        if (!marks() && settings[1]) {
            passed = (passed + 7) / 8 * 8;
        }
        if ((marks() || kind == 2) && markAtOnce()) {
            return false;
        }
        current = new boolean[columns];
        a = 0;
        stateNow = 0;
        boolean bad = plain ? !plainRead() : !drawnRead();
        if (bad) {
            stateNow = 3;
            damaged++;
            current = settings[3] && !rows.isEmpty() ? rows.get(rows.size() - 1).clone() : new boolean[columns];
        }
        rows.add(current);
        states.add(stateNow);
        return !bad || marks() && damaged < 5;
    }

    private int code(boolean dark) {
        String rest = rest();
        for (Map.Entry<Integer, String> entry : (dark ? DARK : WHITE).entrySet()) {
            if (rest.startsWith(entry.getValue())) {
                passed += entry.getValue().length();
                return entry.getKey();
            }
        }
        if (rest.length() < 12) {
            throw new Ends();
        }
        return -1;
    }

    private int runRead(boolean dark) {
        int sum = 0;
        int n = code(dark);
        boolean made = false;
        while (n >= 64) {
            made = true;
            sum += n;
            n = code(dark);
        }
        if (n < 0) {
            throw new NoCode(made);
        }
        return sum + n;
    }

    private void lay(int end, boolean dark) {
        if (end > columns) {
            stateNow = 1;
        }
        while (a < end && a < columns) {
            current[a++] = dark;
        }
    }

    private boolean plainRead() {
        boolean dark = false;
        while (a < columns) {
            try {
                lay(a + runRead(dark), dark);
            } catch (NoCode e) {
                if (marks() && !e.behindMake) {
                    if (markAtOnce()) {
                        stateNow = 2;
                        return true;
                    }
                    if (rest().indexOf('1') < 0) {
                        throw new Ends();
                    }
                }
                return false;
            }
            dark = !dark;
        }
        return true;
    }

    private boolean drawnRead() {
        boolean[] above = above(rows.size());
        boolean colour = false;
        boolean first = true;
        while (a < columns) {
            int b = b(above, first ? a : a + 1, colour);
            String rest = rest();
            if (rest.startsWith("0001")) {
                passed += 4;
                lay(c(above, b), colour);
            } else if (rest.startsWith("001")) {
                passed += 3;
                try {
                    lay(a + runRead(colour), colour);
                    lay(a + runRead(!colour), !colour);
                } catch (NoCode e) {
                    return false;
                }
            } else {
                int way = 0;
                while (way < 7 && !rest.startsWith(SEVEN[way])) {
                    way++;
                }
                if (way == 7) {
                    if (rest.length() < 7) {
                        throw new Ends();
                    }
                    return false;
                }
                passed += SEVEN[way].length();
                int e = b + way - 3;
                if (e < a || !first && e == a) {
                    return false;
                }
                lay(e, colour);
                colour = !colour;
            }
            first = false;
        }
        return true;
    }
}
