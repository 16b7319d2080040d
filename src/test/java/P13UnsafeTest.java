/** Promise 13: unsafe. */
public final class P13UnsafeTest {
    private static final Check CHECK = new Check("P13");

    public static void main(String[] args) {
        restBelow1000();
        restAbove4500();
        stepAbove5000();
        lastOnesAlone();
        either();
        openOnes();
        noSuchCell();
        CHECK.end();
    }

    private static void due(CellTests x, String when, boolean unsafe) {
        CHECK.is("unsafe, " + when, String.valueOf(x.unsafe(0)), String.valueOf(unsafe));
    }

    private static void rest(int volt, boolean unsafe) {
        CellTests x = Cells.of(5);
        x.rest(0, 2, volt);
        due(x, "a rest of " + volt, unsafe);
    }

    private static void step(int volt, boolean unsafe) {
        CellTests x = Cells.of(5);
        x.step(0, 1, 1, volt);
        due(x, "a step of " + volt, unsafe);
    }

    /** Terms, "the voltage of its last rest is below 1000". */
    private static void restBelow1000() {
        rest(0, true);
        rest(999, true);
        rest(1000, false);
        rest(1001, false);
    }

    /** Terms, "the voltage of its last rest is below 1000 or above 4500". */
    private static void restAbove4500() {
        rest(4499, false);
        rest(4500, false);
        rest(4501, true);
        rest(10000, true);
    }

    /** Terms, "or its last step's is above 5000": none is too low for a step. */
    private static void stepAbove5000() {
        step(0, false);
        step(999, false);
        step(4501, false);
        step(5000, false);
        step(5001, true);
        step(10000, true);
    }

    /** Terms, "its last rest", "its last step's": those before them do not count. */
    private static void lastOnesAlone() {
        CellTests x = Cells.of(5);
        x.step(0, 1, 1, 5001);
        due(x, "the last step is", true);
        x.step(0, 1, 1, 5000);
        due(x, "the step before was", false);
        x.rest(0, 2, 999);
        due(x, "the last rest is", true);
        x.rest(0, 3, 1000);
        due(x, "the rest before was", false);
    }

    /** Terms, "or its last step's": one of the two is enough. */
    private static void either() {
        CellTests x = Cells.of(5);
        x.step(0, 1, 1, 5001);
        due(x, "a bad step, a good rest", true);
        x.rest(0, 2, 4501);
        due(x, "both bad", true);
        x.step(0, 1, 1, 5000);
        due(x, "a good step, a bad rest", true);
        x.rest(0, 3, 4500);
        due(x, "both good", false);
    }

    /** Terms, "It is UNSAFE when": an open cell by what it has; what it has not makes it not so. */
    private static void openOnes() {
        CellTests x = Cells.fresh(1);
        due(x, "neither step nor rest", false);
        x.step(0, 1, 1, 5000);
        due(x, "a good step alone", false);
        x.step(0, 1, 1, 5001);
        due(x, "a bad step alone", true);
        CellTests y = Cells.fresh(1);
        y.rest(0, 1, 1000);
        due(y, "a good rest alone", false);
        y.rest(0, 2, 999);
        due(y, "a bad rest alone", true);
    }

    /** Promise 13, "false when there is none such". */
    private static void noSuchCell() {
        CellTests x = new CellTests();
        CHECK.no("unsafe(0) without cells", x.unsafe(0));
        x.cell();
        x.cell();
        x.rest(0, 1, 0);
        x.rest(1, 1, 0);
        for (int cell : Cells.NONE_OF_TWO) {
            CHECK.no("unsafe(" + cell + ")", x.unsafe(cell));
        }
        CHECK.yes("unsafe(0)", x.unsafe(0));
        CHECK.yes("unsafe(1)", x.unsafe(1));
    }
}
