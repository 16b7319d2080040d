/** Promise 1: a new object has no cells and no rules (nor packs, nor rows of fading). */
public final class P01NewObjectTest {
    public static void main(String[] args) {
        Check check = new Check("P01");
        check.is("NONE", CellTests.NONE, -1);
        check.is("NO_CLASS", CellTests.NO_CLASS, 99);

        CellTests x = new CellTests();
        for (int cell = -1; cell <= 8; cell++) {
            check.is("charge", x.charge(cell), Long.MIN_VALUE);
            check.is("cls", x.cls(cell), -1);
            check.is("packOf", x.packOf(cell), -1);
            check.is("record", x.record(cell, 0), -1);
            check.no("step", x.step(cell, 1, 1, 1));
            check.no("rest", x.rest(cell, 1, 1));
        }
        check.is("rules() of no text", x.rules(), 0);
        int cell = Cells.charged(x, 5);
        check.is("the first cell", cell, 0);
        check.is("cls without rules", x.cls(cell), 99);
        check.is("fade without rows", x.fade(cell, 10000), 5);

        CellTests y = new CellTests();
        check.is("another object's cells", y.charge(0), Long.MIN_VALUE);
        check.is("another object's first cell", y.cell(), 0);
        check.end();
    }
}
