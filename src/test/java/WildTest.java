import java.util.Random;

/**
 * Calls with wild arguments in any order: only what the document names is thrown, by the program
 * itself and not by the machine, and a call that throws changes nothing.
 */
public final class WildTest {
    private static final Checks CHECKS = new Checks();
    private static final int[] NUMBERS = {0, 1, 2, 3, 4, 5, 6, 7, 8, 9, 10, 23, 24, 25, 63, 64, 65, 127, 128, 399,
        400, 401, 640, 699, 700, 701, -1, -2, -64, Integer.MIN_VALUE, Integer.MIN_VALUE + 1, Integer.MAX_VALUE,
        Integer.MAX_VALUE - 1, 1 << 16, 1 << 30};

    private final Random random;
    private final FaxFilter filter;

    private WildTest(int seed) {
        random = new Random(seed);
        filter = new FaxFilter(number(), number());
    }

    public static void main(String[] args) {
        for (int seed = 0; seed < 1500; seed++) {
            WildTest test = new WildTest(seed);
            for (int i = 0; i < 250; i++) {
                test.call(i);
            }
        }
        CHECKS.end("WildTest");
    }

    private int number() {
        return random.nextInt(3) == 0 ? NUMBERS[random.nextInt(NUMBERS.length)] : random.nextInt(26);
    }

    private String held() {
        StringBuilder text = new StringBuilder();
        for (int what = 0; what <= 6; what++) {
            text.append(filter.told(what)).append(' ');
        }
        for (int row = 0; row < filter.told(2); row++) {
            text.append(filter.runs(row)).append('/').append(filter.state(row)).append(' ');
        }
        return text.toString();
    }

    private void call(int i) {
        int which = random.nextInt(20);
        String before = i % 10 == 0 ? held() : "";
        try {
            make(which);
        } catch (RuntimeException e) {
            if (i % 10 == 0) {
                CHECKS.same("call " + which + " that throws", held(), before);
            }
            CHECKS.same("call " + which + ", " + e, isDue(which, e) ? 1 : 0, 1);
        }
    }

    private static boolean isDue(int which, RuntimeException e) {
        String message = e.getMessage();
        if (message == null || message.startsWith("Index ")) {
            return false;
        }
        Class<?> thrown = e.getClass();
        boolean isIndex = thrown == ArrayIndexOutOfBoundsException.class;
        boolean isArgument = thrown == IllegalArgumentException.class;
        switch (which) {
            case 0: case 1: case 2: case 3:
                return isArgument;
            case 4: case 5: case 6: case 7: case 8:
                return isIndex;
            case 9: case 10: case 11:
                return isIndex || isArgument;
            case 12: case 13:
                return thrown == UnsupportedOperationException.class;
            default:
                return false;
        }
    }

    private void make(int which) {
        switch (which) {
            case 0: filter.told(number()); break;
            case 1: filter.setting(number(), random.nextBoolean()); break;
            case 2: filter.read(number()); break;
            case 3: filter.code(random.nextBoolean(), number()); break;
            case 4: filter.state(number()); break;
            case 5: filter.bit(number(), number()); break;
            case 6: filter.run(number(), number()); break;
            case 7: filter.runs(number()); break;
            case 8: filter.octet(number()); break;
            case 9: case 10: case 11: filter.put(number(), number(), number(), random.nextBoolean()); break;
            case 12: case 13: filter.row(); break;
            case 14: case 15: filter.add(random.nextLong() & random.nextLong(), number()); break;
            case 16: filter.take(); break;
            case 17: filter.write(); break;
            case 18: if (random.nextInt(4) == 0) filter.drop(); break;
            default: if (random.nextInt(4) == 0) filter.clear(); break;
        }
    }
}
