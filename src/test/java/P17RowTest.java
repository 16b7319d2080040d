/** Promise 17: row. */
public final class P17RowTest {
    private static final Check CHECK = new Check("P17");

    public static void main(String[] args) {
        cycles();
        laterThanTheRowBefore();
        thousandths();
        six();
        refused();
        refusedDoNotCount();
        CHECK.end();
    }

    /** Promise 17, "from a cycle 0 .. 10000 on". */
    private static void cycles() {
        CellTests x = Cells.of(1000);
        CHECK.no("cycle -1", x.row(-1, 500));
        CHECK.no("cycle MIN", x.row(Integer.MIN_VALUE, 500));
        CHECK.is("fade", x.fade(0, 10000), 1000);
        CHECK.yes("cycle 0", x.row(0, 500));
        CHECK.is("fade", x.fade(0, 1), 500);
        CHECK.no("cycle 10001", x.row(10001, 500));
        CHECK.no("cycle MAX", x.row(Integer.MAX_VALUE, 500));
        CHECK.yes("cycle 10000", x.row(10000, 500));
        CHECK.yes("cycle 10000 as the first", Cells.of(1).row(10000, 500));
        CHECK.no("cycle 10001 as the first", Cells.of(1).row(10001, 500));
    }

    /** Promise 17, "later than that of the row before": the same one is not, the next one is. */
    private static void laterThanTheRowBefore() {
        CellTests x = Cells.of(1000);
        CHECK.yes("cycle 5", x.row(5, 0));
        CHECK.no("cycle 4", x.row(4, 1000));
        CHECK.no("cycle 5 again", x.row(5, 1000));
        CHECK.yes("cycle 6", x.row(6, 0));
        CHECK.no("cycle 5, not of the row before", x.row(5, 1000));
        CHECK.no("cycle 6 again", x.row(6, 1000));
        CHECK.yes("cycle 9999", x.row(9999, 0));
        CHECK.yes("cycle 10000", x.row(10000, 0));
        CHECK.no("cycle 10000 again", x.row(10000, 1000));
        CHECK.no("cycle 0", x.row(0, 1000));
        CHECK.is("fade", x.fade(0, 10000), 1000);
        CellTests y = Cells.of(1000);
        CHECK.yes("cycle 0", y.row(0, 0));
        CHECK.no("cycle 0 again", y.row(0, 1000));
        CHECK.yes("cycle 1", y.row(1, 0));
    }

    /** Promise 17, "so many thousandths of its charge, 0 .. 1000, are lost by each". */
    private static void thousandths() {
        int[][] due = {{0, 1000}, {1, 999}, {999, 1}, {1000, 0}};
        for (int[] d : due) {
            CellTests x = Cells.of(1000);
            CHECK.yes(d[0] + " thousandths", x.row(0, d[0]));
            CHECK.is("fade by " + d[0], x.fade(0, 1), d[1]);
        }
        int[] wrong = {-1, 1001, -1000, Integer.MIN_VALUE, Integer.MAX_VALUE};
        for (int w : wrong) {
            CellTests x = Cells.of(1000);
            CHECK.no(w + " thousandths", x.row(0, w));
            CHECK.is("fade behind " + w, x.fade(0, 1), 1000);
        }
    }

    /** Promise 17, "or there are 6". */
    private static void six() {
        CellTests x = Cells.of(1000);
        for (int i = 1; i <= 6; i++) {
            CHECK.yes("row " + i, x.row(i, 0));
        }
        CHECK.no("a 7th row", x.row(7, 1000));
        CHECK.no("an 8th row", x.row(8, 1000));
        CHECK.is("fade", x.fade(0, 10000), 1000);
    }

    /** Terms, "A call that is refused changes nothing": rows, and the cycle they go on behind. */
    private static void refused() {
        int[][] wrong = {{-1, 500}, {3, 500}, {2, 500}, {10001, 500}, {50, -1}, {50, 1001}};
        for (int[] w : wrong) {
            CellTests x = Cells.of(1000);
            x.row(3, 100);
            String behind = " behind row(" + w[0] + ", " + w[1] + ")";
            CHECK.no("row" + behind, x.row(w[0], w[1]));
            CHECK.is("fade" + behind, x.fade(0, 4), 900);
            CHECK.is("fade" + behind, x.fade(0, 5), 810);
            CHECK.yes("cycle 4" + behind, x.row(4, 0));
            CHECK.is("fade" + behind, x.fade(0, 100), 900);
        }
        CellTests y = Cells.of(1000);
        y.row(50, 1001);
        CHECK.yes("cycle 0 behind a refused row", y.row(0, 0));
    }

    /** Terms, "A call that is refused changes nothing": refused rows are none of the 6. */
    private static void refusedDoNotCount() {
        CellTests x = Cells.of(1000);
        for (int i = 1; i <= 6; i++) {
            x.row(i, 1001);
            x.row(-1, 0);
            CHECK.yes("row " + i, x.row(i, 0));
            x.row(i, 0);
        }
        CHECK.no("a 7th row", x.row(7, 0));
    }
}
