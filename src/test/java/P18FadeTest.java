/** Promise 18: fade. */
public final class P18FadeTest {
    private static final Check CHECK = new Check("P18");

    public static void main(String[] args) {
        wrong();
        rows();
        sixRows();
        rounding();
        greatest();
        CHECK.end();
    }

    private static void wrong() {
        CellTests x = new CellTests();
        CHECK.is("no cell", x.fade(0, 0), Long.MIN_VALUE);
        x.cell();
        CHECK.is("cell -1", x.fade(-1, 0), Long.MIN_VALUE);
        CHECK.is("cell 1", x.fade(1, 0), Long.MIN_VALUE);
        CHECK.is("cycles -1", x.fade(0, -1), Long.MIN_VALUE);
        CHECK.is("cycles 10001", x.fade(0, 10001), Long.MIN_VALUE);
        CHECK.is("cycles MAX", x.fade(0, Integer.MAX_VALUE), Long.MIN_VALUE);
        CHECK.is("cycles 0", x.fade(0, 0), 0);
        CHECK.is("cycles 10000", x.fade(0, 10000), 0);
    }

    private static void rows() {
        CellTests x = new CellTests();
        Cells.charged(x, 10000);
        CHECK.is("without rows", x.fade(0, 10000), 10000);
        x.row(3, 100);
        CHECK.is("before the first row", x.fade(0, 3), 10000);
        CHECK.is("its first cycle", x.fade(0, 4), 9000);
        CHECK.is("its second cycle", x.fade(0, 5), 8100);
        x.row(5, 0);
        CHECK.is("a row of 0", x.fade(0, 100), 8100);
        x.row(100, 500);
        CHECK.is("up to the third row", x.fade(0, 100), 8100);
        CHECK.is("the third row", x.fade(0, 101), 4050);
        x.row(9999, 1000);
        CHECK.is("the last cycle but one", x.fade(0, 9999), 1);
        CHECK.is("the last cycle", x.fade(0, 10000), 0);
        CHECK.is("the charge itself stays", x.charge(0), 10000);
        x.step(0, 3600, 10000, 3700);
        CHECK.is("by the charge of now", x.fade(0, 4), 18000);

        CellTests y = new CellTests();
        Cells.charged(y, 8);
        y.row(0, 500);
        y.row(10000, 1000);
        CHECK.is("from cycle 0 on", y.fade(0, 1), 4);
        CHECK.is("cycle 10000 is never reached", y.fade(0, 10000), 1);
        CHECK.is("no cycle", y.fade(0, 0), 8);
    }

    private static void sixRows() {
        CellTests x = new CellTests();
        Cells.charged(x, 64000);
        int[] lost = {500, 0, 250, 500, 750, 1000};
        long[] due = {64000, 32000, 32000, 24000, 12000, 3000, 0, 0};
        for (int i = 0; i < lost.length; i++) {
            x.row(i, lost[i]);
        }
        for (int cycles = 0; cycles < due.length; cycles++) {
            CHECK.is("six rows, " + cycles + " cycles", x.fade(0, cycles), due[cycles]);
        }
        CellTests y = new CellTests();
        Cells.charged(y, 64000);
        for (int i = 0; i < 6; i++) {
            y.row(10 * i, i == 4 ? 500 : 0);
        }
        CHECK.is("the fifth row's ten cycles", y.fade(0, 50), 63);
        CHECK.is("the sixth row ends the fifth", y.fade(0, 10000), 63);
    }

    private static void rounding() {
        CellTests x = new CellTests();
        x.row(0, 1);
        Cells.charged(x, 1999);
        Cells.charged(x, -1999);
        Cells.charged(x, 999);
        Cells.charged(x, -999);
        CHECK.is("1999 less 1.999, which is 1", x.fade(0, 1), 1998);
        CHECK.is("-1999 less -1.999, which is -1", x.fade(1, 1), -1998);
        CHECK.is("down to 999", x.fade(0, 10000), 999);
        CHECK.is("up to -999", x.fade(1, 10000), -999);
        CHECK.is("999 loses nothing", x.fade(2, 10000), 999);
        CHECK.is("-999 loses nothing", x.fade(3, 10000), -999);
    }

    private static void greatest() {
        CellTests x = new CellTests();
        x.cell();
        for (int i = 0; i < 30; i++) {
            x.step(0, 100000, 100000, 3700);
        }
        x.row(0, 999);
        CHECK.is("the greatest charge", x.fade(0, 1), 83333333L - 83333333L * 999 / 1000);
    }
}
