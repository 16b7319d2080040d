import java.util.Arrays;

/** Promise 6: rest. */
public final class P06RestTest {
    private static final Check CHECK = new Check("P06");

    public static void main(String[] args) {
        days();
        behindTheLast();
        millivolts();
        ten();
        noSuchCell();
        refused();
        refusedDoNotCount();
        CHECK.end();
    }

    /** Promise 6, "on a day 0 .. 100000". */
    private static void days() {
        CellTests x = Cells.fresh(2);
        CHECK.no("day -1", x.rest(0, -1, 3000));
        CHECK.no("day MIN", x.rest(0, Integer.MIN_VALUE, 3000));
        CHECK.yes("day 0", x.rest(0, 0, 3000));
        CHECK.no("day 100001", x.rest(0, 100001, 2000));
        CHECK.no("day MAX", x.rest(0, Integer.MAX_VALUE, 2000));
        CHECK.is("loss", x.loss(0, 0), -1);
        CHECK.yes("day 100000", x.rest(0, 100000, 2999));
        CHECK.is("loss above", x.loss(0, 0), 1);
        CHECK.is("loss below", x.loss(0, 1), 100000);
        CHECK.no("a day behind the greatest", x.rest(0, 100001, 2000));
        CHECK.yes("day 100000 as the first", x.rest(1, 100000, 3000));
    }

    /** Promise 6, "behind its last one's"; Terms, "voltages on days that rise": of each cell. */
    private static void behindTheLast() {
        CellTests x = Cells.fresh(2);
        CHECK.yes("day 6", x.rest(0, 6, 3000));
        CHECK.no("day 5", x.rest(0, 5, 2000));
        CHECK.no("day 6 again", x.rest(0, 6, 2000));
        CHECK.yes("day 7", x.rest(0, 7, 2999));
        CHECK.no("day 6, not the last one's", x.rest(0, 6, 2000));
        CHECK.no("day 7 again", x.rest(0, 7, 2000));
        CHECK.yes("day 99999", x.rest(0, 99999, 2998));
        CHECK.no("day 99998", x.rest(0, 99998, 2000));
        CHECK.yes("day 100000", x.rest(0, 100000, 2997));
        CHECK.no("day 100000 again", x.rest(0, 100000, 2000));
        CHECK.is("loss of the four taken", x.loss(0, 0), 3);
        CHECK.yes("the other cell's day 0", x.rest(1, 0, 3000));
        CHECK.no("the other cell's day 0 again", x.rest(1, 0, 3000));
        CHECK.yes("the other cell's day 1", x.rest(1, 1, 3000));
    }

    /** Promise 6, "of 0 .. 10000 millivolts": seen by the loss, from one end to the other. */
    private static void millivolts() {
        CellTests x = Cells.fresh(1);
        CHECK.no("10001", x.rest(0, 1, 10001));
        CHECK.no("MAX", x.rest(0, 1, Integer.MAX_VALUE));
        CHECK.yes("10000", x.rest(0, 1, 10000));
        CHECK.no("-1", x.rest(0, 2, -1));
        CHECK.no("MIN", x.rest(0, 2, Integer.MIN_VALUE));
        CHECK.is("loss", x.loss(0, 0), -1);
        CHECK.yes("0", x.rest(0, 2, 0));
        CHECK.is("loss above", x.loss(0, 0), 10000);
        CHECK.is("loss below", x.loss(0, 1), 1);
    }

    /** Promise 6, "there are 10"; Terms, "10 at most": of each cell. */
    private static void ten() {
        CellTests x = Cells.fresh(2);
        for (int i = 1; i <= 10; i++) {
            CHECK.yes("rest " + i, x.rest(0, i, 3000));
        }
        CHECK.no("an 11th rest", x.rest(0, 11, 500));
        CHECK.no("a 12th rest", x.rest(0, 12, 500));
        CHECK.no("unsafe", x.unsafe(0));
        CHECK.is("loss above", x.loss(0, 0), 0);
        for (int i = 1; i <= 10; i++) {
            CHECK.yes("the other cell's rest " + i, x.rest(1, i, 3000));
        }
        CHECK.no("the other cell's 11th rest", x.rest(1, 11, 3000));
    }

    /** Promise 6, "false when these are not such": no such cell. */
    private static void noSuchCell() {
        CellTests x = new CellTests();
        CHECK.no("cell 0 of none", x.rest(0, 0, 1));
        x.cell();
        x.cell();
        for (int cell : Cells.NONE_OF_TWO) {
            CHECK.no("cell " + cell, x.rest(cell, 5, 0));
        }
        CHECK.no("unsafe(0)", x.unsafe(0));
        CHECK.no("unsafe(1)", x.unsafe(1));
        x.cell();
        CHECK.no("unsafe(2), a cell that came later", x.unsafe(2));
        CHECK.yes("cell 2", x.rest(2, 0, 3000));
    }

    /** Terms, "A call that is refused changes nothing": neither the last day nor the voltages. */
    private static void refused() {
        int[][] wrong = {{-1, 500}, {100001, 500}, {5, 500}, {4, 500}, {50, -1}, {50, 10001}};
        for (int[] w : wrong) {
            CellTests x = Cells.fresh(1);
            String behind = " behind " + Arrays.toString(w);
            x.rest(0, 5, 3000);
            CHECK.no("rest" + behind, x.rest(0, w[0], w[1]));
            CHECK.no("unsafe" + behind, x.unsafe(0));
            CHECK.is("loss" + behind, x.loss(0, 0), -1);
            CHECK.yes("the next day" + behind, x.rest(0, 6, 2993));
            CHECK.is("loss above" + behind, x.loss(0, 0), 7);
            CHECK.is("loss below" + behind, x.loss(0, 1), 1);
        }
        CellTests y = Cells.fresh(1);
        y.rest(0, 50, 10001);
        CHECK.yes("a first rest before a refused one's day", y.rest(0, 0, 3000));
    }

    /** Terms, "A call that is refused changes nothing": refused rests are none of the 10. */
    private static void refusedDoNotCount() {
        CellTests x = Cells.fresh(1);
        for (int i = 1; i <= 10; i++) {
            x.rest(0, i, 10001);
            x.rest(0, -1, 3000);
            CHECK.yes("rest " + i, x.rest(0, i, 3000));
            x.rest(0, i, 3000);
        }
        CHECK.no("an 11th rest", x.rest(0, 11, 3000));
    }
}
