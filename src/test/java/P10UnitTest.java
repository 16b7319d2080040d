/** Promise 10: unit. */
public final class P10UnitTest {
    private static final Check CHECK = new Check("P10");

    public static void main(String[] args) {
        leastAndGreatest();
        refused();
        everyByteInItsOrder();
        asManyAsCalls();
        sixHundred();
        CHECK.end();
    }

    /** Promise 10, "One more byte of the text, 0 .. 255". */
    private static void leastAndGreatest() {
        CellTests x = new CellTests();
        CHECK.no("unit(-1)", x.unit(-1));
        CHECK.no("unit(256)", x.unit(256));
        CHECK.no("unit(MIN)", x.unit(Integer.MIN_VALUE));
        CHECK.no("unit(MAX)", x.unit(Integer.MAX_VALUE));
        CHECK.is("rules() behind refused bytes alone", x.rules(), 0);
        CHECK.yes("unit(0)", x.unit(0));
        CHECK.is("rules() of a byte 0, which is a word", x.rules(), -1);
        CHECK.yes("unit(255)", x.unit(255));
        CHECK.is("rules() of a byte 255, which is a word", x.rules(), -1);
        for (int u = 0; u <= 255; u++) {
            CHECK.yes("unit(" + u + ")", x.unit(u));
        }
    }

    /** Terms, "A call that is refused changes nothing": nor is a number cut down to a byte. */
    private static void refused() {
        CellTests x = Cells.of(5);
        Cells.tell(x, "class 1");
        int[] wrong = {-1, 256, 256 + '2', '2' - 256, 65536 + '2', Integer.MIN_VALUE + '2'};
        for (int w : wrong) {
            CHECK.no("unit(" + w + ")", x.unit(w));
        }
        Cells.tell(x, "7");
        CHECK.is("rules() of class 17", x.rules(), 1);
        CHECK.is("cls", x.cls(0), 17);
    }

    /** Promise 10, "One more byte of the text": behind the others, and one alone each time. */
    private static void everyByteInItsOrder() {
        CellTests x = Cells.of(5);
        int[] bytes = {'c', 'l', 'a', 's', 's', 32, '1', '2'};
        for (int b : bytes) {
            CHECK.yes("unit(" + b + ")", x.unit(b));
        }
        CHECK.is("rules()", x.rules(), 1);
        CHECK.is("cls", x.cls(0), 12);
    }

    /** Promise 10, "false when it is not such, or there are 600": 512 calls come before that. */
    private static void asManyAsCalls() {
        CellTests x = new CellTests();
        for (int i = 1; i <= 512; i++) {
            CHECK.yes("byte " + i, x.unit('x'));
        }
        CellTests y = new CellTests();
        for (int i = 1; i <= 511; i++) {
            y.unit(i < 511 ? 32 : 'x');
        }
        CHECK.is("rules(): the 511th byte is a word", y.rules(), -1);
    }

    /**
     * Promise 10, "there are 600": an object's 512 calls end before that, so that these answers
     * are free; this program keeps the limit all the same.
     */
    private static void sixHundred() {
        CellTests x = new CellTests();
        for (int i = 1; i <= 600; i++) {
            CHECK.yes("byte " + i, x.unit(32));
        }
        CHECK.no("a 601st byte", x.unit('x'));
        CHECK.no("a 602nd byte", x.unit('x'));
        CHECK.is("rules() of 600 blanks", x.rules(), 0);
        CHECK.yes("a byte of the text that is empty then", x.unit('x'));
        CHECK.is("rules() of it", x.rules(), -1);
    }
}
