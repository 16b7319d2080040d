/** Promise 19: record. */
public final class P19RecordTest {
    private static final Check CHECK = new Check("P19");

    private static void due(CellTests x, int cell, String record) {
        String got = Cells.record(x, cell);
        if (!got.equals(record)) {
            CHECK.is("the record '" + got + "', due is '" + record + "'", 1, 0);
        }
        CHECK.is("byte " + record.length(), x.record(cell, record.length()), -1);
        CHECK.is("byte -1", x.record(cell, -1), -1);
    }

    public static void main(String[] args) {
        CellTests x = new CellTests();
        due(x, 0, "");
        due(x, -1, "");
        x.cell();
        due(x, 0, "0 0 -1");
        due(x, 1, "");
        x.step(0, 3600, -12, 3700);
        due(x, 0, "0 -12 -1");
        x.rest(0, 1, 3700);
        due(x, 0, "0 -12 99");
        Cells.rules(x, "class 7 q -12 -12 class 0");
        due(x, 0, "0 -12 7");
        x.step(0, 3600, 22, 3700);
        due(x, 0, "0 10 0");
        CHECK.is("byte MIN", x.record(0, Integer.MIN_VALUE), -1);
        CHECK.is("byte MAX", x.record(0, Integer.MAX_VALUE), -1);

        CellTests y = new CellTests();
        for (int i = 0; i < 8; i++) {
            y.cell();
        }
        for (int i = 0; i < 30; i++) {
            y.step(7, 100000, -100000, 3700);
            y.step(6, 100000, 100000, 3700);
        }
        y.rest(7, 1, 3700);
        due(y, 7, "7 -83333334 99");
        due(y, 6, "6 83333333 -1");
        due(y, 8, "");
        CHECK.end();
    }
}
