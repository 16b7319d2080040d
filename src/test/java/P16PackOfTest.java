/** Promise 16: packOf. */
public final class P16PackOfTest {
    private static final Check CHECK = new Check("P16");

    private static void due(CellTests x, String when, int... packs) {
        for (int cell = 0; cell < packs.length; cell++) {
            CHECK.is("packOf(" + cell + ") " + when, x.packOf(cell), packs[cell]);
        }
    }

    public static void main(String[] args) {
        CellTests x = new CellTests();
        due(x, "without cells", -1, -1, -1);
        Cells.charged(x, 7);
        Cells.charged(x, 1);
        Cells.charged(x, 7);
        Cells.charged(x, 2);
        Cells.charged(x, 40);
        due(x, "before pack()", -1, -1, -1, -1, -1);
        x.pack(2, 2);
        due(x, "behind pack(2, 2)", 0, 1, 0, 1, -1, -1, -1, -1);
        CHECK.is("packOf(-1)", x.packOf(-1), -1);
        CHECK.is("packOf(8)", x.packOf(8), -1);
        CHECK.is("packOf(MIN)", x.packOf(Integer.MIN_VALUE), -1);
        CHECK.is("packOf(MAX)", x.packOf(Integer.MAX_VALUE), -1);

        x.pack(4, 2);
        due(x, "behind one that finds none", 0, 1, 0, 1, -1);
        x.rest(0, 2, 0);
        x.step(2, 100000, 100000, 3700);
        Cells.charged(x, 1);
        due(x, "behind changes of the cells", 0, 1, 0, 1, -1, -1);
        x.pack(2, 1);
        due(x, "behind the next that finds", -1, 0, -1, -1, -1, 0);
        CHECK.end();
    }
}
