/** Promise 17: row. */
public final class P17RowTest {
    public static void main(String[] args) {
        Check check = new Check("P17");
        CellTests x = new CellTests();
        Cells.charged(x, 1000);
        check.no("row(-1, 5)", x.row(-1, 5));
        check.no("row(10001, 5)", x.row(10001, 5));
        check.no("row(0, -1)", x.row(0, -1));
        check.no("row(0, 1001)", x.row(0, 1001));
        check.no("row(MIN, MAX)", x.row(Integer.MIN_VALUE, Integer.MAX_VALUE));
        check.is("fade behind refused rows", x.fade(0, 10000), 1000);

        check.yes("row(0, 0)", x.row(0, 0));
        check.no("the same cycle", x.row(0, 500));
        check.yes("row(2, 500)", x.row(2, 500));
        check.no("the same cycle", x.row(2, 1000));
        check.no("a cycle before", x.row(1, 1000));
        check.no("too many thousandths", x.row(3, 1001));
        check.is("fade(2)", x.fade(0, 2), 1000);
        check.is("fade(4)", x.fade(0, 4), 250);
        check.yes("row(4, 0)", x.row(4, 0));
        check.yes("row(5, 1)", x.row(5, 1));
        check.yes("row(9, 1000)", x.row(9, 1000));
        check.yes("row(10000, 1000)", x.row(10000, 1000));
        check.no("a cycle behind the last one", x.row(10001, 1000));

        CellTests y = new CellTests();
        Cells.charged(y, 1000);
        for (int i = 0; i < 6; i++) {
            check.yes("row " + i, y.row(i, 0));
        }
        check.no("a 7th row", y.row(6, 1000));
        check.is("fade behind a 7th row", y.fade(0, 10000), 1000);
        check.end();
    }
}
