/** Promise 16: packOf. */
public final class P16PackOfTest {
    private static final Check CHECK = new Check("P16");

    public static void main(String[] args) {
        inNone();
        leastAndGreatest();
        noSuchCell();
        staysWhenNothingIsFound();
        staysWhenCellsChange();
        nextThatFinds();
        CHECK.end();
    }

    private static void due(CellTests x, String when, String packs) {
        CHECK.is("packs " + when, Cells.packs(x), (packs + "--------").substring(0, 8));
    }

    /** Promise 16, "NONE when it is in none": before any pack(), and behind one without it. */
    private static void inNone() {
        CellTests x = Cells.of(7, 1, 7, 2, 40);
        due(x, "before pack()", "");
        x.pack(2, 2);
        due(x, "behind pack(2, 2)", "0101-");
    }

    /** Promise 16, "The pack of a cell by what pack() found": packs 0 .. 3 of cells 0 .. 7. */
    private static void leastAndGreatest() {
        CellTests x = Cells.of(1, 1, 2, 2, 3, 3, 4, 4);
        x.pack(2, 4);
        CHECK.is("packOf(0)", x.packOf(0), 0);
        CHECK.is("packOf(1)", x.packOf(1), 0);
        CHECK.is("packOf(6)", x.packOf(6), 3);
        CHECK.is("packOf(7)", x.packOf(7), 3);
    }

    /** Promise 16, "NONE when it is in none": no such cell is in none. */
    private static void noSuchCell() {
        CellTests x = new CellTests();
        CHECK.is("packOf(0) without cells", x.packOf(0), -1);
        Cells.charged(x, 1);
        Cells.charged(x, 1);
        x.pack(1, 2);
        for (int cell : Cells.NONE_OF_TWO) {
            CHECK.is("packOf(" + cell + ")", x.packOf(cell), -1);
        }
        CHECK.is("packOf(1)", x.packOf(1), 1);
    }

    /** Terms, "What pack() found stays until the next one that finds": not the next refused. */
    private static void staysWhenNothingIsFound() {
        CellTests x = Cells.of(7, 1, 7, 2, 40);
        x.pack(2, 2);
        x.pack(3, 2);
        due(x, "behind one without enough cells", "0101-");
        x.pack(0, 1);
        x.pack(1, 5);
        due(x, "behind ones that are not such", "0101-");
    }

    /** Terms, "What pack() found stays until the next one that finds": whatever else is told. */
    private static void staysWhenCellsChange() {
        CellTests x = Cells.of(7, 1, 7, 2, 40);
        x.pack(2, 2);
        x.rest(0, 2, 0);
        due(x, "behind a rest that makes one unsafe", "0101-");
        x.step(2, 100000, 100000, 3700);
        due(x, "behind a step that moves a charge", "0101-");
        Cells.charged(x, 1);
        due(x, "behind a cell more", "0101--");
        Cells.rules(x, "class 1");
        x.row(0, 500);
        x.span(1, 1);
        x.warm(0, 1);
        due(x, "behind all else", "0101--");
    }

    /** Terms, "until the next one that finds": then all is by that one, and nothing is left. */
    private static void nextThatFinds() {
        CellTests x = Cells.of(7, 1, 7, 2, 40);
        x.pack(2, 2);
        due(x, "behind pack(2, 2)", "0101-");
        x.pack(2, 1);
        due(x, "behind pack(2, 1)", "0-0--");
        x.rest(0, 2, 0);
        x.pack(2, 1);
        due(x, "behind pack(2, 1) without cell 0", "-0-0-");
        x.pack(1, 1);
        due(x, "behind pack(1, 1)", "-0");
    }
}
