/** Promise 7: charge. */
public final class P07ChargeTest {
    private static final Check CHECK = new Check("P07");

    public static void main(String[] args) {
        noSuchCell();
        noSteps();
        down();
        sumFirst();
        greatestAndLeast();
        CHECK.end();
    }

    /** The charge of one step of so many seconds at so many milliamperes. */
    private static void due(int seconds, int ampere, long charge) {
        CellTests x = Cells.fresh(1);
        x.step(0, seconds, ampere, 1);
        CHECK.is(seconds + " s at " + ampere + " mA", x.charge(0), charge);
    }

    /** Promise 7, "Long.MIN_VALUE when there is none such": no such cell. */
    private static void noSuchCell() {
        CellTests x = new CellTests();
        CHECK.is("charge(0) without cells", x.charge(0), Long.MIN_VALUE);
        x.cell();
        x.cell();
        CHECK.is("charge(-1)", x.charge(-1), Long.MIN_VALUE);
        CHECK.is("charge(0)", x.charge(0), 0);
        CHECK.is("charge(1)", x.charge(1), 0);
        CHECK.is("charge(2)", x.charge(2), Long.MIN_VALUE);
        CHECK.is("charge(8)", x.charge(8), Long.MIN_VALUE);
        CHECK.is("charge(MIN)", x.charge(Integer.MIN_VALUE), Long.MIN_VALUE);
        CHECK.is("charge(MAX)", x.charge(Integer.MAX_VALUE), Long.MIN_VALUE);
    }

    /** Promise 7, "A cell's charge": the sum over no steps is 0, and an open cell has one too. */
    private static void noSteps() {
        CellTests x = Cells.fresh(1);
        CHECK.is("without steps", x.charge(0), 0);
        x.rest(0, 1, 3700);
        CHECK.is("with a rest alone", x.charge(0), 0);
        x.step(0, 3600, 0, 1);
        CHECK.is("with a step of 0 mA", x.charge(0), 0);
    }

    /** Terms, "over 3600, down (below 0, too)" (promise 7): both sides of whole charges. */
    private static void down() {
        due(1, 1, 0);
        due(3599, 1, 0);
        due(3600, 1, 1);
        due(3601, 1, 1);
        due(7199, 1, 1);
        due(7200, 1, 2);
        due(1, -1, -1);
        due(3599, -1, -1);
        due(3600, -1, -1);
        due(3601, -1, -2);
        due(7200, -1, -2);
        due(7201, -1, -3);
    }

    /** Terms, "the sum of seconds times milliamperes over its steps, over 3600" (promise 7). */
    private static void sumFirst() {
        CellTests x = Cells.fresh(1);
        x.step(0, 3599, 1, 1);
        CHECK.is("3599", x.charge(0), 0);
        x.step(0, 1, 1, 1);
        CHECK.is("3599 and 1, not each divided", x.charge(0), 1);
        x.step(0, 3600, -1, 1);
        CHECK.is("back to 0", x.charge(0), 0);
        x.step(0, 1, -1, 1);
        CHECK.is("-1", x.charge(0), -1);
        x.step(0, 1, 1, 1);
        CHECK.is("0 again: no step was rounded", x.charge(0), 0);
    }

    /** Terms, "seconds times milliamperes" (promise 7): products and sums beyond an int. */
    private static void greatestAndLeast() {
        due(21474, 100000, 596500);
        due(21475, 100000, 596527);
        due(100000, 100000, 2777777);
        due(100000, -100000, -2777778);
        CellTests x = Cells.fresh(2);
        for (int i = 0; i < 30; i++) {
            x.step(0, 100000, 100000, 1);
            x.step(1, 100000, -100000, 1);
        }
        CHECK.is("the greatest charge", x.charge(0), 83333333);
        CHECK.is("the least charge", x.charge(1), -83333334);
    }
}
