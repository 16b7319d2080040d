/** Promise 1: a new object. */
public final class P01NewObjectTest {
    private static final Check CHECK = new Check("P01");

    public static void main(String[] args) {
        constants();
        noCells();
        noRules();
        noPacksAndRows();
        apart();
        CHECK.end();
    }

    /** The public face, "NONE = -1" and "NO_CLASS = 99". */
    private static void constants() {
        CHECK.is("NONE", CellTests.NONE, -1);
        CHECK.is("NO_CLASS", CellTests.NO_CLASS, 99);
    }

    /** Promise 1, "No cells": none of the 8 that there may be, nor one beside them. */
    private static void noCells() {
        CellTests x = new CellTests();
        for (int cell = -1; cell <= 8; cell++) {
            String of = " of cell " + cell;
            CHECK.no("warm" + of, x.warm(cell, 0));
            CHECK.no("step" + of, x.step(cell, 1, 1, 1));
            CHECK.no("rest" + of, x.rest(cell, 1, 1));
            CHECK.is("charge" + of, x.charge(cell), Long.MIN_VALUE);
            CHECK.is("resistance" + of, x.resistance(cell, 0), -1);
            CHECK.is("loss" + of, x.loss(cell, 0), -1);
            CHECK.is("cls" + of, x.cls(cell), -1);
            CHECK.no("unsafe" + of, x.unsafe(cell));
            CHECK.no("may" + of, x.may(cell, 0));
            CHECK.is("packOf" + of, x.packOf(cell), -1);
            CHECK.is("fade" + of, x.fade(cell, 0), Long.MIN_VALUE);
            CHECK.is("record" + of, x.record(cell, 0), -1);
        }
        CHECK.is("pack(1, 1)", x.pack(1, 1), -1);
        CHECK.is("the first cell", x.cell(), 0);
    }

    /** Promise 1, "no rules": no sentence holds, and no text is there to be read. */
    private static void noRules() {
        CellTests x = Cells.of(5);
        CHECK.is("cls without rules", x.cls(0), 99);
        CHECK.is("rules() without a text", x.rules(), 0);
        CHECK.is("cls behind it", x.cls(0), 99);
    }

    /** Promise 1, "A new object": pack() found nothing yet, and no row of fading is there. */
    private static void noPacksAndRows() {
        CellTests x = Cells.of(5, 5);
        CHECK.is("packs before pack()", Cells.packs(x), "--------");
        CHECK.is("fade without rows", x.fade(0, 10000), 5);
        CHECK.yes("the first row", x.row(0, 1000));
        CHECK.is("fade with it", x.fade(0, 1), 0);
    }

    /** Promise 1, "No cells, no rules": whatever an object made before has. */
    private static void apart() {
        CellTests x = Cells.of(5, 5);
        Cells.rules(x, "class 3");
        x.span(5, 9);
        x.row(0, 500);
        x.pack(1, 2);
        Cells.tell(x, "class");
        CellTests y = new CellTests();
        CHECK.is("charge(0) of the other", y.charge(0), Long.MIN_VALUE);
        CHECK.is("packs of the other", Cells.packs(y), "--------");
        CHECK.is("rules() of the other", y.rules(), 0);
        CHECK.is("the other's first cell", Cells.charged(y, 7), 0);
        CHECK.is("cls of the other", y.cls(0), 99);
        CHECK.is("fade of the other", y.fade(0, 1), 7);
        CHECK.is("charge(0) of the first", x.charge(0), 5);
        CHECK.is("cls of the first", x.cls(0), 3);
    }
}
