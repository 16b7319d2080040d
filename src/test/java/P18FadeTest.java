/** Promise 18: fade. */
public final class P18FadeTest {
    private static final Check CHECK = new Check("P18");

    public static void main(String[] args) {
        noSuchCell();
        cycles();
        noRow();
        notBehindThatCycle();
        lastRow();
        sixRows();
        towards0();
        fromBelow0();
        allAndNothing();
        cycleByCycle();
        greatest();
        ofNow();
        CHECK.end();
    }

    private static void due(CellTests x, int cycles, long left) {
        CHECK.is("fade(0, " + cycles + ")", x.fade(0, cycles), left);
    }

    /** Promise 18, "Long.MIN_VALUE when these are not such": no such cell. */
    private static void noSuchCell() {
        CellTests x = new CellTests();
        CHECK.is("cell 0 of none", x.fade(0, 0), Long.MIN_VALUE);
        Cells.charged(x, 5);
        Cells.charged(x, 6);
        for (int cell : Cells.NONE_OF_TWO) {
            CHECK.is("cell " + cell, x.fade(cell, 0), Long.MIN_VALUE);
        }
        CHECK.is("cell 0", x.fade(0, 0), 5);
        CHECK.is("cell 1", x.fade(1, 0), 6);
    }

    /** Promise 18, "behind so many cycles, 0 .. 10000". */
    private static void cycles() {
        CellTests x = Cells.of(8);
        x.row(0, 500);
        due(x, -1, Long.MIN_VALUE);
        due(x, 0, 8);
        due(x, 1, 4);
        due(x, 10000, 1);
        due(x, 10001, Long.MIN_VALUE);
        due(x, Integer.MIN_VALUE, Long.MIN_VALUE);
        due(x, Integer.MAX_VALUE, Long.MIN_VALUE);
    }

    /** Promise 18, "(0 when there is none)": no row at all, and none up to that cycle. */
    private static void noRow() {
        CellTests x = Cells.of(1000);
        due(x, 0, 1000);
        due(x, 1, 1000);
        due(x, 10000, 1000);
        x.row(3, 1000);
        due(x, 3, 1000);
        due(x, 4, 0);
    }

    /** Promise 18, "for each cycle, from 0 on", "the last row not behind that cycle". */
    private static void notBehindThatCycle() {
        CellTests x = Cells.of(1000);
        x.row(0, 100);
        due(x, 0, 1000);
        due(x, 1, 900);
        CellTests y = Cells.of(1000);
        y.row(1, 100);
        due(y, 1, 1000);
        due(y, 2, 900);
        CellTests z = Cells.of(1000);
        z.row(9999, 100);
        due(z, 9999, 1000);
        due(z, 10000, 900);
        CellTests last = Cells.of(1000);
        last.row(10000, 100);
        // The cycles of 10000 are those from 0 to 9999.
        due(last, 10000, 1000);
    }

    /** Promise 18, "the thousandths of the last row": from its cycle on instead of those before. */
    private static void lastRow() {
        CellTests x = Cells.of(10000);
        x.row(3, 100);
        due(x, 4, 9000);
        due(x, 5, 8100);
        x.row(5, 0);
        due(x, 5, 8100);
        due(x, 6, 8100);
        due(x, 100, 8100);
        x.row(100, 500);
        due(x, 100, 8100);
        due(x, 101, 4050);
        x.row(102, 1000);
        due(x, 102, 2025);
        due(x, 103, 0);
    }

    /** Promise 18, "the last row not behind that cycle": six rows, a cycle each, and ten each. */
    private static void sixRows() {
        CellTests x = Cells.of(64000);
        int[] lost = {500, 0, 250, 500, 750, 1000};
        long[] due = {64000, 32000, 32000, 24000, 12000, 3000, 0, 0};
        for (int i = 0; i < lost.length; i++) {
            x.row(i, lost[i]);
        }
        for (int cycles = 0; cycles < due.length; cycles++) {
            due(x, cycles, due[cycles]);
        }
        CellTests y = Cells.of(64000);
        for (int i = 0; i < 6; i++) {
            y.row(10 * i, i == 4 ? 500 : 0);
        }
        due(y, 40, 64000);
        due(y, 50, 63);
        due(y, 10000, 63);
    }

    /** Promise 18, "over 1000, towards 0": what is lost, on both sides of a whole one. */
    private static void towards0() {
        int[][] due = {{999, 999}, {1000, 999}, {1001, 1000}, {1999, 1998}, {2000, 1998}};
        for (int[] d : due) {
            CellTests x = Cells.of(d[0]);
            x.row(0, 1);
            due(x, 1, d[1]);
        }
        CellTests y = Cells.of(3);
        y.row(0, 333);
        due(y, 1, 3);
        CellTests z = Cells.of(3);
        z.row(0, 334);
        due(z, 1, 2);
    }

    /** Promise 18, "towards 0": below 0, too, where down would be one more. */
    private static void fromBelow0() {
        int[][] due = {{-999, -999}, {-1000, -999}, {-1001, -1000}, {-1999, -1998}, {-2000, -1998}};
        for (int[] d : due) {
            CellTests x = Cells.of(d[0]);
            x.row(0, 1);
            due(x, 1, d[1]);
        }
        CellTests y = Cells.of(-1);
        y.row(0, 999);
        due(y, 10000, -1);
        y.row(1, 1000);
        due(y, 2, 0);
    }

    /** Promise 17, "0 .. 1000, are lost by each": by none of them, by all but one, by all. */
    private static void allAndNothing() {
        int[] charges = {0, 1, -1, 1000, -1000};
        for (int charge : charges) {
            CellTests x = Cells.of(charge);
            x.row(0, 0);
            due(x, 10000, charge);
            CellTests y = Cells.of(charge);
            y.row(0, 1000);
            due(y, 1, 0);
            due(y, 10000, 0);
        }
        CellTests z = Cells.of(2000);
        z.row(0, 999);
        due(z, 1, 2);
        due(z, 2, 1);
        due(z, 3, 1);
    }

    /** Promise 18, "for each cycle, from 0 on, q becomes": rounded at each, not at the end. */
    private static void cycleByCycle() {
        CellTests x = Cells.of(1999);
        x.row(0, 1);
        due(x, 1, 1998);
        due(x, 2, 1997);
        due(x, 999, 1000);
        due(x, 1000, 999);
        due(x, 1001, 999);
        due(x, 10000, 999);
        CellTests y = Cells.of(5);
        y.row(0, 300);
        // 5 less 1.5, 4 less 1.2, 3 less 0.9.
        due(y, 1, 4);
        due(y, 2, 3);
        due(y, 3, 3);
        y.row(3, 334);
        due(y, 4, 2);
    }

    /** Promise 18, "q times the thousandths": beyond an int, of the greatest and least charges. */
    private static void greatest() {
        CellTests x = Cells.fresh(2);
        for (int i = 0; i < 30; i++) {
            x.step(0, 100000, 100000, 3700);
            x.step(1, 100000, -100000, 3700);
        }
        x.row(0, 999);
        CHECK.is("83333333 less 83249999", x.fade(0, 1), 83334);
        CHECK.is("-83333334 less -83250000", x.fade(1, 1), -83334);
        x.row(1, 1000);
        CHECK.is("the greatest, all lost", x.fade(0, 2), 0);
        CHECK.is("the least, all lost", x.fade(1, 2), 0);
    }

    /** Promise 18, "What a cell's charge is": of now, of an open one too, and it stays. */
    private static void ofNow() {
        CellTests x = Cells.fresh(1);
        x.row(0, 100);
        due(x, 10000, 0);
        x.step(0, 3600, 1000, 3700);
        due(x, 1, 900);
        due(x, 1, 900);
        CHECK.is("the charge itself", x.charge(0), 1000);
        x.step(0, 3600, 1000, 3700);
        due(x, 1, 1800);
    }
}
