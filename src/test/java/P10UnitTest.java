/** Promise 10: unit. */
public final class P10UnitTest {
    public static void main(String[] args) {
        Check check = new Check("P10");
        CellTests x = new CellTests();
        Cells.charged(x, 5);
        check.no("unit(-1)", x.unit(-1));
        check.no("unit(256)", x.unit(256));
        check.no("unit(MIN)", x.unit(Integer.MIN_VALUE));
        check.no("unit(MAX)", x.unit(Integer.MAX_VALUE));
        check.is("rules() behind refused bytes", x.rules(), 0);

        Cells.tell(x, "class ");
        // 304 is 48 + 256: were it cut to a byte, it would be the digit 0.
        check.no("unit(304)", x.unit(304));
        Cells.tell(x, "7");
        check.is("rules() of class 7", x.rules(), 1);
        check.is("cls", x.cls(0), 7);

        check.yes("unit(0)", x.unit(0));
        check.is("rules() of a byte 0, which is a word", x.rules(), -1);
        check.yes("unit(255)", x.unit(255));
        check.is("rules() of a byte 255, which is a word", x.rules(), -1);

        CellTests y = new CellTests();
        for (int i = 0; i < 500; i++) {
            check.yes("unit " + i, y.unit(i % 2 == 0 ? 32 : 10));
        }
        check.is("rules() of 500 blanks", y.rules(), 0);

        // The limit lies behind the 512 calls that have promised answers; it is kept all the same.
        CellTests z = new CellTests();
        for (int i = 0; i < 600; i++) {
            check.yes("unit " + i, z.unit(32));
        }
        check.no("a 601st byte", z.unit('x'));
        check.is("rules() of 600 blanks", z.rules(), 0);
        check.end();
    }
}
