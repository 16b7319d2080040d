import java.util.Arrays;

/** Promise 5: step. */
public final class P05StepTest {
    private static final Check CHECK = new Check("P05");

    public static void main(String[] args) {
        seconds();
        milliamperes();
        millivolts();
        thirty();
        tooWarmOrTooCold();
        noSuchCell();
        refused();
        refusedDoNotCount();
        CHECK.end();
    }

    /** Promise 5, "1 .. 100000 seconds". */
    private static void seconds() {
        CellTests x = Cells.fresh(1);
        CHECK.no("0 seconds", x.step(0, 0, 3600, 1));
        CHECK.no("-1 seconds", x.step(0, -1, 3600, 1));
        CHECK.is("charge", x.charge(0), 0);
        CHECK.yes("1 second", x.step(0, 1, 3600, 1));
        CHECK.is("charge", x.charge(0), 1);
        CHECK.yes("100000 seconds", x.step(0, 100000, 3600, 1));
        CHECK.is("charge", x.charge(0), 100001);
        CHECK.no("100001 seconds", x.step(0, 100001, 3600, 1));
        CHECK.no("MIN seconds", x.step(0, Integer.MIN_VALUE, 3600, 1));
        CHECK.no("MAX seconds", x.step(0, Integer.MAX_VALUE, 3600, 1));
        CHECK.is("charge", x.charge(0), 100001);
    }

    /** Promise 5, "-100000 .. 100000 milliamperes". */
    private static void milliamperes() {
        CellTests x = Cells.fresh(1);
        CHECK.no("-100001", x.step(0, 3600, -100001, 1));
        CHECK.yes("-100000", x.step(0, 3600, -100000, 1));
        CHECK.is("charge", x.charge(0), -100000);
        CHECK.yes("0", x.step(0, 3600, 0, 1));
        CHECK.is("charge", x.charge(0), -100000);
        CHECK.yes("100000", x.step(0, 3600, 100000, 1));
        CHECK.is("charge", x.charge(0), 0);
        CHECK.no("100001", x.step(0, 3600, 100001, 1));
        CHECK.no("MIN", x.step(0, 3600, Integer.MIN_VALUE, 1));
        CHECK.no("MAX", x.step(0, 3600, Integer.MAX_VALUE, 1));
        CHECK.is("charge", x.charge(0), 0);
    }

    /** Promise 5, "0 .. 10000 millivolts": seen by the resistance, from one end to the other. */
    private static void millivolts() {
        CellTests x = Cells.fresh(1);
        CHECK.no("-1", x.step(0, 1, 1, -1));
        CHECK.yes("0", x.step(0, 1, 1, 0));
        CHECK.no("10001", x.step(0, 1, 2, 10001));
        CHECK.no("MIN", x.step(0, 1, 2, Integer.MIN_VALUE));
        CHECK.no("MAX", x.step(0, 1, 2, Integer.MAX_VALUE));
        CHECK.is("resistance", x.resistance(0, 0), -1);
        CHECK.yes("10000", x.step(0, 1, 2, 10000));
        CHECK.is("resistance", x.resistance(0, 0), 10000);
        CHECK.is("resistance", x.resistance(0, 1), 1);
    }

    /** Promise 5, "there are 30"; Terms, "in their order, 30 at most of each": of each cell. */
    private static void thirty() {
        CellTests x = Cells.fresh(2);
        for (int i = 1; i <= 30; i++) {
            CHECK.yes("step " + i, x.step(0, 3600, 1, 3700));
        }
        CHECK.no("a 31st step", x.step(0, 3600, 2, 9000));
        CHECK.no("a 32nd step", x.step(0, 3600, 2, 9000));
        CHECK.is("charge of 30", x.charge(0), 30);
        CHECK.is("resistance", x.resistance(0, 0), -1);
        CHECK.no("unsafe", x.unsafe(0));
        for (int i = 1; i <= 30; i++) {
            CHECK.yes("the other cell's step " + i, x.step(1, 3600, 1, 3700));
        }
        CHECK.no("the other cell's 31st step", x.step(1, 3600, 1, 3700));
    }

    /**
     * Promise 5, "the cell is too warm or too cold"; Terms, "a cell whose warmth is outside the
     * span takes no steps": both sides of both ends, by the warmth and by the span.
     */
    private static void tooWarmOrTooCold() {
        CellTests x = Cells.fresh(1);
        x.span(10, 20);
        CHECK.no("0", x.step(0, 3600, 1, 1));
        int[][] due = {{9, 0}, {10, 1}, {20, 1}, {21, 0}};
        for (int[] d : due) {
            x.warm(0, d[0]);
            CHECK.is("warmth " + d[0], x.step(0, 3600, 1, 1) ? 1 : 0, d[1]);
        }
        x.warm(0, 15);
        x.span(0, 14);
        CHECK.no("15 in 0 .. 14", x.step(0, 3600, 1, 1));
        x.span(0, 15);
        CHECK.yes("15 in 0 .. 15", x.step(0, 3600, 1, 1));
        x.span(15, 1000000);
        CHECK.yes("15 in 15 .. 1000000", x.step(0, 3600, 1, 1));
        x.span(16, 1000000);
        CHECK.no("15 in 16 .. 1000000", x.step(0, 3600, 1, 1));
        CHECK.is("charge of the four taken", x.charge(0), 4);
        CHECK.yes("a rest asks for no warmth", x.rest(0, 1, 1));
    }

    /** Promise 5, "false when these are not such": no such cell. */
    private static void noSuchCell() {
        CellTests x = new CellTests();
        CHECK.no("cell 0 of none", x.step(0, 3600, 1, 1));
        x.cell();
        x.cell();
        for (int cell : Cells.NONE_OF_TWO) {
            CHECK.no("cell " + cell, x.step(cell, 3600, 1, 1));
        }
        CHECK.is("charge(0)", x.charge(0), 0);
        CHECK.is("charge(1)", x.charge(1), 0);
        x.cell();
        CHECK.is("charge(2), a cell that came later", x.charge(2), 0);
        CHECK.yes("cell 2", x.step(2, 3600, 1, 1));
    }

    /** Terms, "A call that is refused changes nothing": neither sums nor the last step. */
    private static void refused() {
        int[][] wrong = {
            {0, 2, 9000}, {100001, 2, 9000}, {1, -100001, 9000}, {1, 100001, 9000},
            {1, 2, -1}, {1, 2, 10001},
        };
        for (int[] w : wrong) {
            CellTests x = Cells.fresh(1);
            String behind = " behind " + Arrays.toString(w);
            CHECK.no("step" + behind, x.step(0, w[0], w[1], w[2]));
            CHECK.yes("still open" + behind, x.may(0, 0) && x.may(0, 4));
            x.step(0, 3600, 5, 5000);
            x.rest(0, 1, 3700);
            CHECK.no("step" + behind, x.step(0, w[0], w[1], w[2]));
            CHECK.is("charge" + behind, x.charge(0), 5);
            CHECK.is("resistance" + behind, x.resistance(0, 0), -1);
            CHECK.no("unsafe" + behind, x.unsafe(0));
            x.step(0, 3600, 7, 4999);
            CHECK.is("resistance above" + behind, x.resistance(0, 0), 1);
            CHECK.is("resistance below" + behind, x.resistance(0, 1), 2);
        }
    }

    /** Terms, "A call that is refused changes nothing": refused steps are none of the 30. */
    private static void refusedDoNotCount() {
        CellTests x = Cells.fresh(1);
        for (int i = 1; i <= 30; i++) {
            x.step(0, 0, 1, 1);
            x.span(1, 1);
            x.step(0, 1, 1, 1);
            x.span(0, 0);
            CHECK.yes("step " + i, x.step(0, 3600, 1, 1));
        }
        CHECK.no("a 31st step", x.step(0, 3600, 1, 1));
        CHECK.is("charge of 30", x.charge(0), 30);
    }
}
