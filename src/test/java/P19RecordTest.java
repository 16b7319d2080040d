/** Promise 19: record. */
public final class P19RecordTest {
    private static final Check CHECK = new Check("P19");

    public static void main(String[] args) {
        bytes();
        noSuchByte();
        noSuchCell();
        numbers();
        charges();
        classes();
        greatestAndLeast();
        ofNow();
        CHECK.end();
    }

    private static void due(CellTests x, int cell, String record) {
        CHECK.is("the record of " + cell, Cells.record(x, cell), record);
        CHECK.is("the byte behind it", x.record(cell, record.length()), -1);
        CHECK.is("byte -1", x.record(cell, -1), -1);
    }

    /** Promise 19, "its number, its charge, its class .. blanks between them": none elsewhere. */
    private static void bytes() {
        CellTests x = Cells.of(12);
        int[] due = {48, 32, 49, 50, 32, 57, 57};
        for (int i = 0; i < due.length; i++) {
            CHECK.is("byte " + i, x.record(0, i), due[i]);
        }
    }

    /** Promise 19, "NONE when there are none such": bytes before and behind the record. */
    private static void noSuchByte() {
        CellTests x = Cells.of(12);
        CHECK.is("byte -1", x.record(0, -1), -1);
        CHECK.is("byte 0", x.record(0, 0), '0');
        CHECK.is("byte 6", x.record(0, 6), '9');
        CHECK.is("byte 7", x.record(0, 7), -1);
        CHECK.is("byte 8", x.record(0, 8), -1);
        CHECK.is("byte MIN", x.record(0, Integer.MIN_VALUE), -1);
        CHECK.is("byte MAX", x.record(0, Integer.MAX_VALUE), -1);
    }

    /** Promise 19, "NONE when there are none such": no such cell. */
    private static void noSuchCell() {
        CellTests x = new CellTests();
        due(x, 0, "");
        x.cell();
        x.cell();
        for (int cell : Cells.NONE_OF_TWO) {
            due(x, cell, "");
        }
        due(x, 1, "1 0 -1");
    }

    /** Promise 19, "its number": from 0 to 7. */
    private static void numbers() {
        CellTests x = Cells.fresh(8);
        for (int cell = 0; cell < 8; cell++) {
            due(x, cell, cell + " 0 -1");
        }
        due(x, 8, "");
    }

    /** Promise 19, "its charge .. in decimals (- before those below 0)". */
    private static void charges() {
        int[] charges = {0, 1, 9, 10, 99, 100, 100000, -1, -9, -10, -100000};
        for (int charge : charges) {
            due(Cells.of(charge), 0, "0 " + charge + " 99");
        }
        CellTests x = Cells.fresh(1);
        x.step(0, 1, -1, 3700);
        due(x, 0, "0 -1 -1");
    }

    /** Promise 19, "its class as cls() tells it": 0, 98, 99, and NONE of an open one. */
    private static void classes() {
        CellTests x = Cells.of(5);
        due(x, 0, "0 5 99");
        int[] classes = {0, 7, 9, 10, 98};
        for (int c : classes) {
            Cells.rules(x, "class " + c);
            due(x, 0, "0 5 " + c);
        }
        x.cell();
        due(x, 1, "1 0 -1");
        x.rest(1, 1, 3700);
        due(x, 1, "1 0 -1");
        x.step(1, 3600, 3, 3700);
        due(x, 1, "1 3 98");
    }

    /** Promise 19, "in decimals": the greatest and the least charge there can be. */
    private static void greatestAndLeast() {
        CellTests x = Cells.fresh(8);
        for (int i = 0; i < 30; i++) {
            x.step(6, 100000, 100000, 3700);
            x.step(7, 100000, -100000, 3700);
        }
        x.rest(7, 1, 3700);
        due(x, 6, "6 83333333 -1");
        due(x, 7, "7 -83333334 99");
    }

    /** Promise 19, "Byte i of a cell's record": by what the cell is now. */
    private static void ofNow() {
        CellTests x = Cells.fresh(1);
        due(x, 0, "0 0 -1");
        x.step(0, 3600, -12, 3700);
        due(x, 0, "0 -12 -1");
        x.rest(0, 1, 3700);
        due(x, 0, "0 -12 99");
        Cells.rules(x, "class 7 q -12 -12 class 0");
        due(x, 0, "0 -12 7");
        x.step(0, 3600, 22, 3700);
        due(x, 0, "0 10 0");
        x.rules();
        due(x, 0, "0 10 99");
    }
}
