/** Promise 7: charge. */
public final class P07ChargeTest {
    public static void main(String[] args) {
        Check check = new Check("P07");
        CellTests x = new CellTests();
        check.is("charge of no cell", x.charge(0), Long.MIN_VALUE);
        x.cell();
        check.is("charge(-1)", x.charge(-1), Long.MIN_VALUE);
        check.is("charge(1)", x.charge(1), Long.MIN_VALUE);
        check.is("charge without steps", x.charge(0), 0);
        x.step(0, 3599, 1, 1);
        check.is("3599 / 3600, down", x.charge(0), 0);
        x.step(0, 1, 1, 1);
        check.is("3600 / 3600: the sum is divided, not each step", x.charge(0), 1);
        x.step(0, 3600, -1, 1);
        check.is("0", x.charge(0), 0);
        x.step(0, 1, -1, 1);
        check.is("-1 / 3600, down", x.charge(0), -1);
        x.step(0, 3599, -1, 1);
        check.is("-3600 / 3600", x.charge(0), -1);
        x.step(0, 1, -1, 1);
        check.is("-3601 / 3600, down", x.charge(0), -2);

        x.cell();
        x.cell();
        for (int i = 0; i < 30; i++) {
            x.step(1, 100000, 100000, 1);
            x.step(2, 100000, -100000, 1);
        }
        check.is("the greatest charge", x.charge(1), 83333333);
        check.is("the least charge", x.charge(2), -83333334);
        check.end();
    }
}
