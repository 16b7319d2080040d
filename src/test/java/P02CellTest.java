/** Promise 2: cell. */
public final class P02CellTest {
    public static void main(String[] args) {
        Check check = new Check("P02");
        CellTests x = new CellTests();
        for (int i = 0; i < 8; i++) {
            check.is("charge before cell()", x.charge(i), Long.MIN_VALUE);
            check.is("cell()", x.cell(), i);
            check.is("charge", x.charge(i), 0);
        }
        for (int i = 0; i < 3; i++) {
            check.is("cell() of a ninth", x.cell(), -1);
        }
        check.is("charge(8)", x.charge(8), Long.MIN_VALUE);
        check.is("charge(7)", x.charge(7), 0);

        check.yes("step(3)", x.step(3, 3600, 7, 3700));
        check.is("charge(3)", x.charge(3), 7);
        check.is("charge(2), of another cell", x.charge(2), 0);
        check.is("charge(4), of another cell", x.charge(4), 0);
        check.end();
    }
}
