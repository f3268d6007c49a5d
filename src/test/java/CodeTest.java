/** Promise 17: code. */
public final class CodeTest extends Promise {
    private final FaxFilter filter = new FaxFilter(2, 5);

    public static void main(String[] args) {
        CodeTest test = new CodeTest();
        test.white();
        test.dark();
        test.all();
        test.wrong();
        test.checks.end("CodeTest");
    }

    private void code(boolean dark, int run, String bits) {
        checks.same("code of " + (dark ? "dark " : "white ") + run, filter.code(dark, run),
            65536 * bits.length() + Integer.parseInt(bits, 2));
    }

    private void white() {
        code(false, 2, "1111");
        code(false, 7, "1010");
        code(false, 8, "10011");
        code(false, 11, "10000");
        code(false, 64, "01111");
        code(false, 128, "01110");
        code(false, 1, "011011");
        code(false, 12, "011010");
        code(false, 17, "010101");
        code(false, 18, "0101001");
        code(false, 27, "0100000");
        code(false, 0, "00111111");
        code(false, 28, "00111110");
        code(false, 63, "00011011");
        code(false, 192, "00011010");
        code(false, 640, "00010011");
    }

    private void dark() {
        code(true, 2, "11");
        code(true, 3, "10");
        code(true, 1, "011");
        code(true, 4, "010");
        code(true, 5, "0011");
        code(true, 6, "0010");
        code(true, 7, "00011");
        code(true, 8, "00010");
        code(true, 9, "0000111");
        code(true, 12, "0000100");
        code(true, 0, "000001111");
        code(true, 13, "000001110");
        code(true, 20, "000000111");
        code(true, 21, "000000110111");
        code(true, 63, "000000001101");
        code(true, 64, "000000001100");
        code(true, 640, "000000000011");
    }

    private void all() {
        for (int run = 0; run <= 640; run += run < 64 ? 1 : 64) {
            code(false, run, Model.code(false, run));
            code(true, run, Model.code(true, run));
        }
    }

    private void wrong() {
        for (int run : new int[] {-1, 65, 127, 129, 639, 641, 704, -64, Integer.MIN_VALUE, Integer.MAX_VALUE}) {
            throwsArgument("white code of " + run, () -> filter.code(false, run));
            throwsArgument("dark code of " + run, () -> filter.code(true, run));
        }
    }
}
