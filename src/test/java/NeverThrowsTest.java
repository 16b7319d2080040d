/**
 * Rule 7 of LANGUAGE.md: no call throws by itself, whatever it is given and however often; far
 * more calls than the 512 that have promised answers, so that every limit is run into.
 */
public final class NeverThrowsTest {
    private static final int[] ODD = {
        Integer.MIN_VALUE, Integer.MIN_VALUE + 1, -100001, -1000, -2, -1, 0, 1, 2, 4, 5, 7, 8, 9,
        29, 30, 255, 256, 1000, 5000, 10000, 10001, 100000, 100001, 1000000, 1000001,
        Integer.MAX_VALUE - 1, Integer.MAX_VALUE,
    };

    public static void main(String[] args) {
        Check check = new Check("NeverThrows");
        try {
            oddOn(new CellTests());
            oddOn(full());
            longTexts();
        } catch (RuntimeException e) {
            e.printStackTrace(System.out);
            check.is("a call threw " + e, 1, 0);
        }
        check.end();
    }

    /** Eight cells that are given more steps and rests than they take, and more rows than six. */
    private static CellTests full() {
        CellTests x = new CellTests();
        for (int cell = 0; cell < 8; cell++) {
            x.cell();
            for (int i = 0; i < 40; i++) {
                x.step(cell, 100000, cell % 2 == 0 ? 100000 - i : -100000 + i, 3700);
                x.rest(cell, i, 3700);
            }
        }
        for (int i = 0; i < 10; i++) {
            x.row(i, 1);
        }
        return x;
    }

    /** All promises: every call with odd arguments in every place. */
    private static void oddOn(CellTests x) {
        for (int a : ODD) {
            x.charge(a);
            x.cls(a);
            x.unsafe(a);
            x.packOf(a);
            x.unit(a);
            for (int b : ODD) {
                x.resistance(a, b);
                x.loss(a, b);
                x.may(a, b);
                x.pack(a, b);
                x.fade(a, b);
                x.record(a, b);
                for (int c : ODD) {
                    x.rest(a, b, c);
                    x.step(a, b, c, a);
                    x.step(a, b, b, c);
                }
                x.warm(a, b);
                x.span(a, b);
                x.row(a, b);
            }
        }
        for (int i = 0; i < 10; i++) {
            x.cell();
            x.rules();
        }
    }

    /** Promises 10 to 12: more bytes than the text takes, cut off at its end anywhere. */
    private static void longTexts() {
        String[] parts = {"class 1 ", "q 0 0 ", "class", " ", "1", "-", "\n", "class 1 r 0 9 ", "r"};
        for (String start : parts) {
            for (String part : parts) {
                CellTests x = new CellTests();
                Cells.charged(x, 5);
                for (int i = 0; i < 700; i++) {
                    int at = i - start.length();
                    x.unit(at < 0 ? start.charAt(i) : part.charAt(at % part.length()));
                }
                x.rules();
                x.cls(0);
                x.rules();
            }
        }
    }
}
