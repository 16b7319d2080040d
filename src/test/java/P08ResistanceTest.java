/** Promise 8: resistance. */
public final class P08ResistanceTest {
    private static final Check CHECK = new Check("P08");

    public static void main(String[] args) {
        none();
        latestTwo();
        oneBehindTheOther();
        withoutSign();
        lowestTerms();
        greatest();
        parts();
        noSuchCell();
        CHECK.end();
    }

    private static void due(CellTests x, String when, int above, int below) {
        CHECK.is("above, " + when, x.resistance(0, 0), above);
        CHECK.is("below, " + when, x.resistance(0, 1), below);
    }

    /** By two steps alone. */
    private static void due(int ampereA, int voltA, int ampereB, int voltB, int above, int below) {
        CellTests x = Cells.fresh(1);
        x.step(0, 1, ampereA, voltA);
        x.step(0, 1, ampereB, voltB);
        due(x, ampereA + " mA " + voltA + " mV, " + ampereB + " mA " + voltB + " mV", above, below);
    }

    /** Terms, "none when there are none such", and promise 8, "NONE when it has none". */
    private static void none() {
        CellTests x = Cells.fresh(1);
        due(x, "without steps", -1, -1);
        x.step(0, 1, 10, 3000);
        due(x, "with one step", -1, -1);
        x.step(0, 1, 10, 4000);
        due(x, "with two of the same milliamperes", -1, -1);
        x.step(0, 1, 10, 4100);
        due(x, "with three of the same milliamperes", -1, -1);
        x.step(0, 1, 11, 4100);
        due(x, "with a fourth of others", 0, 1);
    }

    /** Terms, "of the latest two steps, one behind the other, whose milliamperes differ". */
    private static void latestTwo() {
        CellTests x = Cells.fresh(1);
        x.step(0, 1, 1, 3000);
        x.step(0, 1, 2, 3005);
        due(x, "the first two", 5, 1);
        x.step(0, 1, 2, 9000);
        due(x, "the latest two have the same milliamperes", 5, 1);
        x.step(0, 1, 2, 8000);
        due(x, "so have the latest three", 5, 1);
        x.step(0, 1, 4, 8003);
        due(x, "a later change takes over", 3, 2);
        x.step(0, 1, 5, 8003);
        due(x, "so does one of no voltage", 0, 1);
    }

    /** Terms, "one behind the other": steps with another one between them are no two such. */
    private static void oneBehindTheOther() {
        CellTests x = Cells.fresh(1);
        x.step(0, 1, 5, 3000);
        x.step(0, 1, 6, 3100);
        x.step(0, 1, 6, 3200);
        due(x, "of 5 and the first 6", 100, 1);
        x.step(0, 1, 5, 3201);
        due(x, "of the second 6 and 5", 1, 1);
    }

    /** Terms, "without its sign": both rise, both fall, one of each; over 0 milliamperes too. */
    private static void withoutSign() {
        due(10, 3000, 13, 3002, 2, 3);
        due(13, 3002, 10, 3000, 2, 3);
        due(10, 3002, 13, 3000, 2, 3);
        due(13, 3000, 10, 3002, 2, 3);
        due(-1, 3000, 2, 3002, 2, 3);
        due(2, 3000, -1, 3002, 2, 3);
        due(0, 3002, -3, 3000, 2, 3);
    }

    /** Terms, "a fraction in lowest terms". */
    private static void lowestTerms() {
        due(1, 3000, 2, 3000, 0, 1);
        due(1, 3000, 7, 3000, 0, 1);
        due(1, 3000, 7, 3006, 1, 1);
        due(1, 3000, 7, 3003, 1, 2);
        due(1, 3000, 7, 3012, 2, 1);
        due(1, 3000, 7, 3004, 2, 3);
        due(1, 3000, 7, 3009, 3, 2);
        due(1, 3000, 7, 3007, 7, 6);
        due(1, 3000, 7, 3005, 5, 6);
        due(0, 0, 6765, 4181, 4181, 6765);
    }

    /** Terms, "the change of the voltage over the change of the milliamperes": the greatest. */
    private static void greatest() {
        due(-100000, 0, 100000, 10000, 1, 20);
        due(100000, 10000, -100000, 0, 1, 20);
        due(-100000, 0, 100000, 9999, 9999, 200000);
        due(-100000, 0, 99999, 10000, 10000, 199999);
        due(0, 0, 1, 10000, 10000, 1);
    }

    /** Promise 8, "0 above, 1 below; NONE when it has none, or there are none such": the parts. */
    private static void parts() {
        CellTests x = Cells.fresh(1);
        x.step(0, 1, 1, 3000);
        x.step(0, 1, 3, 3007);
        int[][] due = {
            {-1, -1}, {0, 7}, {1, 2}, {2, -1}, {Integer.MIN_VALUE, -1}, {Integer.MAX_VALUE, -1},
        };
        for (int[] d : due) {
            CHECK.is("part " + d[0], x.resistance(0, d[0]), d[1]);
        }
    }

    /** Promise 8, "or there are none such": no such cell. */
    private static void noSuchCell() {
        CellTests x = new CellTests();
        CHECK.is("cell 0 of none", x.resistance(0, 0), -1);
        x.cell();
        x.cell();
        x.step(1, 1, 1, 3000);
        x.step(1, 1, 3, 3007);
        CHECK.is("cell 0", x.resistance(0, 0), -1);
        CHECK.is("cell 1", x.resistance(1, 0), 7);
        for (int cell : Cells.NONE_OF_TWO) {
            CHECK.is("above, cell " + cell, x.resistance(cell, 0), -1);
            CHECK.is("below, cell " + cell, x.resistance(cell, 1), -1);
        }
    }
}
