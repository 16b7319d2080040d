/** Promise 9: loss. */
public final class P09LossTest {
    private static final Check CHECK = new Check("P09");

    public static void main(String[] args) {
        lessThanTwo();
        zeroAtLeast();
        firstAndLast();
        lowestTerms();
        greatest();
        parts();
        noSuchCell();
        CHECK.end();
    }

    private static void due(CellTests x, String when, int above, int below) {
        CHECK.is("above, " + when, x.loss(0, 0), above);
        CHECK.is("below, " + when, x.loss(0, 1), below);
    }

    /** By two rests alone. */
    private static void due(int dayA, int voltA, int dayB, int voltB, int above, int below) {
        CellTests x = Cells.fresh(1);
        x.rest(0, dayA, voltA);
        x.rest(0, dayB, voltB);
        due(x, "day " + dayA + " " + voltA + " mV, day " + dayB + " " + voltB + " mV", above, below);
    }

    /** Terms, "none when there are less than two", and promise 9, "likewise": NONE then. */
    private static void lessThanTwo() {
        CellTests x = Cells.fresh(1);
        due(x, "without rests", -1, -1);
        x.rest(0, 4, 4000);
        due(x, "with one rest", -1, -1);
        x.rest(0, 5, 3999);
        due(x, "with two rests", 1, 1);
    }

    /** Terms, "by how much the last one is less than the first one (0 at least)". */
    private static void zeroAtLeast() {
        due(4, 4000, 5, 3999, 1, 1);
        due(4, 4000, 5, 4000, 0, 1);
        due(4, 4000, 5, 4001, 0, 1);
        due(4, 0, 9, 10000, 0, 1);
    }

    /** Terms, "over the days between them": of the first one and the last one, whatever between. */
    private static void firstAndLast() {
        CellTests x = Cells.fresh(1);
        x.rest(0, 4, 4000);
        x.rest(0, 10, 3991);
        due(x, "9 over 6", 3, 2);
        x.rest(0, 11, 4100);
        due(x, "a gain", 0, 1);
        x.rest(0, 24, 3980);
        due(x, "20 over 20", 1, 1);
        x.rest(0, 25, 3980);
        due(x, "20 over 21", 20, 21);
        for (int day = 26; day < 30; day++) {
            x.rest(0, day, 0);
        }
        x.rest(0, 31, 3993);
        due(x, "10 rests, 7 over 27", 7, 27);
    }

    /** Promise 9, "(a fraction in lowest terms)". */
    private static void lowestTerms() {
        due(0, 4000, 6, 4000, 0, 1);
        due(0, 4000, 6, 3994, 1, 1);
        due(0, 4000, 6, 3997, 1, 2);
        due(0, 4000, 6, 3988, 2, 1);
        due(0, 4000, 6, 3996, 2, 3);
        due(0, 4000, 6, 3991, 3, 2);
        due(0, 4000, 6, 3993, 7, 6);
        due(0, 4000, 6, 3995, 5, 6);
    }

    /** Terms, "RESTS of a cell: voltages on days that rise": the greatest loss, the most days. */
    private static void greatest() {
        due(0, 10000, 1, 0, 10000, 1);
        due(0, 10000, 100000, 0, 1, 10);
        due(0, 9999, 100000, 0, 9999, 100000);
        due(99999, 10000, 100000, 0, 10000, 1);
        due(0, 1, 100000, 0, 1, 100000);
    }

    /** Promise 9, "A part of its loss, likewise": 0 above, 1 below, NONE for others. */
    private static void parts() {
        CellTests x = Cells.fresh(1);
        x.rest(0, 1, 3007);
        x.rest(0, 3, 3000);
        int[][] due = {
            {-1, -1}, {0, 7}, {1, 2}, {2, -1}, {Integer.MIN_VALUE, -1}, {Integer.MAX_VALUE, -1},
        };
        for (int[] d : due) {
            CHECK.is("part " + d[0], x.loss(0, d[0]), d[1]);
        }
    }

    /** Promise 9, "likewise": NONE when there is no such cell. */
    private static void noSuchCell() {
        CellTests x = new CellTests();
        CHECK.is("cell 0 of none", x.loss(0, 0), -1);
        x.cell();
        x.cell();
        x.rest(1, 1, 3007);
        x.rest(1, 3, 3000);
        CHECK.is("cell 0", x.loss(0, 0), -1);
        CHECK.is("cell 1", x.loss(1, 0), 7);
        for (int cell : Cells.NONE_OF_TWO) {
            CHECK.is("above, cell " + cell, x.loss(cell, 0), -1);
            CHECK.is("below, cell " + cell, x.loss(cell, 1), -1);
        }
    }
}
