/** Promise 15: pack, with the packs that it found. */
public final class P15PackTest {
    private static final Check CHECK = new Check("P15");

    public static void main(String[] args) {
        oneToFourPacks();
        oneToFourInAPack();
        enoughCells();
        noCellInTwo();
        notOpen();
        notUnsafe();
        spreads();
        spreadsBelow0();
        greatestSpreads();
        leastSum();
        firstOfEqual();
        inNoneCountsAsP();
        numberedByLeastCells();
        refused();
        CHECK.end();
    }

    private static void due(CellTests x, int n, int packs, long sum, String found) {
        String call = "pack(" + n + ", " + packs + ")";
        CHECK.is(call, x.pack(n, packs), sum);
        CHECK.is("packs behind " + call, Cells.packs(x), (found + "--------").substring(0, 8));
    }

    /** Promise 15, "packs of 1 .. 4". */
    private static void oneToFourPacks() {
        CellTests x = Cells.of(5, 5, 5, 5, 5, 5, 5, 5);
        CHECK.is("pack(1, 0)", x.pack(1, 0), -1);
        CHECK.is("pack(1, -1)", x.pack(1, -1), -1);
        due(x, 1, 1, 0, "0");
        due(x, 1, 2, 0, "01");
        due(x, 1, 3, 0, "012");
        due(x, 1, 4, 0, "0123");
        CHECK.is("pack(1, 5)", x.pack(1, 5), -1);
        CHECK.is("pack(1, 8)", x.pack(1, 8), -1);
        CHECK.is("pack(1, MIN)", x.pack(1, Integer.MIN_VALUE), -1);
        CHECK.is("pack(1, MAX)", x.pack(1, Integer.MAX_VALUE), -1);
    }

    /** Promise 15, "n of 1 .. 4". */
    private static void oneToFourInAPack() {
        CellTests x = Cells.of(5, 5, 5, 5, 5, 5, 5, 5);
        CHECK.is("pack(0, 1)", x.pack(0, 1), -1);
        CHECK.is("pack(0, 0)", x.pack(0, 0), -1);
        CHECK.is("pack(-1, 1)", x.pack(-1, 1), -1);
        CHECK.is("pack(-1, -1)", x.pack(-1, -1), -1);
        due(x, 1, 1, 0, "0");
        due(x, 2, 1, 0, "00");
        due(x, 3, 1, 0, "000");
        due(x, 4, 1, 0, "0000");
        CHECK.is("pack(5, 1)", x.pack(5, 1), -1);
        CHECK.is("pack(8, 1)", x.pack(8, 1), -1);
        CHECK.is("pack(MIN, 1)", x.pack(Integer.MIN_VALUE, 1), -1);
        CHECK.is("pack(MAX, 1)", x.pack(Integer.MAX_VALUE, 1), -1);
        CHECK.is("pack(65536, 65536)", x.pack(65536, 65536), -1);
    }

    /** Promise 15, "or there are not enough cells": n times the packs, and one cell less. */
    private static void enoughCells() {
        for (int n = 1; n <= 4; n++) {
            for (int packs = 1; packs <= 4; packs++) {
                CellTests x = new CellTests();
                for (int cells = 0; cells <= 8; cells++) {
                    long due = n * packs <= cells ? 0 : -1;
                    CHECK.is("pack(" + n + ", " + packs + ") of " + cells + " cells",
                            x.pack(n, packs), due);
                    if (cells < 8) {
                        Cells.charged(x, 5);
                    }
                }
            }
        }
    }

    /** Terms, "P packs of n cells each", "no cell is in two": counted, whatever the charges. */
    private static void noCellInTwo() {
        for (int n = 1; n <= 4; n++) {
            for (int packs = 1; packs <= 4 && n * packs <= 8; packs++) {
                CellTests x = Cells.of(31, 7, 7, 90, -4, 12, 50, 8);
                x.pack(n, packs);
                int[] sizes = new int[packs];
                for (int cell = 0; cell < 8; cell++) {
                    int pack = x.packOf(cell);
                    CHECK.yes("pack " + pack + " of " + packs, pack >= -1 && pack < packs);
                    if (pack >= 0 && pack < packs) {
                        sizes[pack]++;
                    }
                }
                for (int pack = 0; pack < packs; pack++) {
                    CHECK.is("cells in pack " + pack + " of " + packs, sizes[pack], n);
                }
            }
        }
    }

    /** Terms, "of cells that are not open": one of each kind is left out until it is not open. */
    private static void notOpen() {
        CellTests x = Cells.of(5, 5);
        x.cell();
        x.cell();
        x.cell();
        x.rest(3, 1, 3700);
        x.step(4, 3600, 5, 3700);
        CHECK.is("three cells", x.pack(3, 1), -1);
        due(x, 2, 1, 0, "00");
        x.step(3, 3600, 5, 3700);
        due(x, 3, 1, 0, "00-0");
        CHECK.is("four cells", x.pack(4, 1), -1);
        x.rest(4, 1, 3700);
        due(x, 4, 1, 0, "00-00");
    }

    /** Terms, "and not unsafe": both sides of the rests and of the steps. */
    private static void notUnsafe() {
        int[][] rests = {{999, 0}, {1000, 1}, {4500, 1}, {4501, 0}};
        for (int[] r : rests) {
            CellTests x = Cells.of(5, 5, 5);
            x.rest(1, 2, r[0]);
            CHECK.is("three cells, a rest of " + r[0], x.pack(3, 1), r[1] == 1 ? 0 : -1);
            due(x, 2, 1, 0, r[1] == 1 ? "00-" : "0-0");
        }
        CellTests y = Cells.of(5, 5, 5);
        y.step(1, 1, 1, 5000);
        due(y, 2, 1, 0, "00-");
        y.step(1, 1, 1, 5001);
        due(y, 2, 1, 0, "0-0");
    }

    /** Terms, "its greatest charge less its least one": of 1, 2, 3 and 4 cells in any order. */
    private static void spreads() {
        due(Cells.of(9), 1, 1, 0, "0");
        due(Cells.of(9, 9), 2, 1, 0, "00");
        due(Cells.of(9, 8), 2, 1, 1, "00");
        due(Cells.of(8, 9), 2, 1, 1, "00");
        due(Cells.of(3, 9, 5), 3, 1, 6, "000");
        due(Cells.of(9, 5, 3), 3, 1, 6, "000");
        due(Cells.of(5, 3, 9, 4), 4, 1, 6, "0000");
        due(Cells.of(4, 9, 3, 5), 4, 1, 6, "0000");
    }

    /** Terms, "its greatest charge less its least one": with charges below 0, too. */
    private static void spreadsBelow0() {
        due(Cells.of(-9, -8), 2, 1, 1, "00");
        due(Cells.of(-1, 1), 2, 1, 2, "00");
        due(Cells.of(-10, 10, -9, 8), 2, 2, 3, "0101");
        due(Cells.of(0, -3, 2), 3, 1, 5, "000");
    }

    /** Terms, "the least sum of spreads": the greatest that there can be. */
    private static void greatestSpreads() {
        CellTests x = Cells.fresh(8);
        for (int cell = 0; cell < 8; cell++) {
            x.rest(cell, 1, 3700);
            for (int i = 0; i < 30; i++) {
                x.step(cell, 100000, cell < 4 ? 100000 : -100000, 3700);
            }
        }
        due(x, 4, 2, 0, "00001111");
        due(x, 3, 2, 0, "000-111-");
        x.rest(0, 2, 0);
        x.rest(1, 2, 0);
        x.rest(7, 2, 0);
        x.rest(6, 2, 0);
        due(x, 4, 1, 166666667, "--0000--");
    }

    /** Terms, "THE BEST packs have the least sum of spreads": of the sum, not of one pack. */
    private static void leastSum() {
        CellTests x = Cells.of(10, 50, 12, 48, 90, 11, 52, 10);
        due(x, 2, 4, 41, "01213230");
        due(x, 3, 2, 5, "01-1-010");
        due(x, 4, 2, 44, "01011010");
        due(x, 2, 3, 3, "0121-2-0");
        due(x, 4, 1, 2, "0-0--0-0");
        // The closest pair, of 10 and 11, would leave 0 and 21.
        due(Cells.of(0, 10, 11, 21), 2, 2, 20, "0011");
        due(Cells.of(0, 9, 10, 21), 2, 2, 20, "0011");
        due(Cells.of(100, 7, 9, 101), 2, 1, 1, "0--0");
        due(Cells.of(1, 2, 4), 2, 1, 1, "00-");
        due(Cells.of(1, 3, 4), 2, 1, 1, "-00");
    }

    /** Terms, "of those they are the first: by the packs of cells 0, 1, ..". */
    private static void firstOfEqual() {
        CellTests x = Cells.of(5, 5, 5, 5, 5, 5, 5, 5);
        due(x, 2, 2, 0, "0011----");
        due(x, 2, 4, 0, "00112233");
        due(x, 3, 2, 0, "000111--");
        due(x, 4, 2, 0, "00001111");
        // All three ways to part them into pairs cost 10.
        due(Cells.of(0, 10, 5, 5), 2, 2, 10, "0011");
        // Cell 0 may go with 2 or 3.
        due(Cells.of(5, 9, 5, 5, 9), 2, 2, 0, "010-1");
        due(Cells.of(0, 0, 9, 9), 2, 2, 0, "0011");
        due(Cells.of(0, 9, 9, 0), 2, 2, 0, "0110");
        due(Cells.of(5, 0, 5, 10), 2, 2, 10, "0011");
        due(Cells.of(0, 10, 0, 10, 10), 2, 2, 0, "0101-");
        due(Cells.of(1, 2, 3, 4), 2, 1, 1, "00--");
    }

    /** Terms, "(a cell that is in none counts as P)": it comes behind each pack there is. */
    private static void inNoneCountsAsP() {
        due(Cells.of(1, 2, 1, 2), 2, 1, 0, "0-0-");
        due(Cells.of(9, 1, 2, 2, 1), 2, 1, 0, "-0--0");
        due(Cells.of(7, 7, 7), 2, 1, 0, "00-");
        due(Cells.of(7, 7, 7), 1, 2, 0, "01-");
        due(Cells.of(5, 5, 6, 5), 1, 3, 0, "012-");
        due(Cells.of(0, 1, 2, 3, 4), 2, 2, 2, "0011-");
        due(Cells.of(0, 2, 3, 4, 5), 2, 2, 2, "-0011");
        due(Cells.of(0, 1, 3, 4, 5), 2, 2, 2, "0011-");
    }

    /** Terms, "packs are numbered by their least cells". */
    private static void numberedByLeastCells() {
        due(Cells.of(90, 10, 10, 90), 2, 2, 0, "0110");
        due(Cells.of(10, 90, 90, 10), 2, 2, 0, "0110");
        due(Cells.of(4, 3, 2, 1, 4, 3, 2, 1), 2, 4, 0, "01230123");
        due(Cells.of(1, 2, 3, 4, 4, 3, 2, 1), 2, 4, 0, "01233210");
        due(Cells.of(50, 1, 2, 9, 9, 2, 1), 2, 3, 0, "-012210");
    }

    /** Terms, "A call that is refused changes nothing. What pack() found stays". */
    private static void refused() {
        int[][] wrong = {
            {0, 1}, {1, 0}, {-1, 1}, {1, -1}, {5, 1}, {1, 5}, {2, 2}, {4, 1}, {4, 4}, {1, 4},
            {Integer.MIN_VALUE, Integer.MIN_VALUE}, {Integer.MAX_VALUE, 2}, {2, Integer.MAX_VALUE},
            {65536, 65536},
        };
        CellTests x = Cells.of(3, 1, 2);
        due(x, 2, 1, 1, "0-0");
        for (int[] w : wrong) {
            due(x, w[0], w[1], -1, "0-0");
        }
        due(x, 3, 1, 2, "000");
        due(x, 1, 3, 0, "012");
        CellTests y = Cells.of(3, 1, 2);
        for (int[] w : wrong) {
            due(y, w[0], w[1], -1, "");
        }
    }
}
