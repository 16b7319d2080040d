/** Promise 15: pack, with the packs that it found. */
public final class P15PackTest {
    private static final Check CHECK = new Check("P15");

    private static CellTests of(int... charges) {
        CellTests x = new CellTests();
        for (int charge : charges) {
            Cells.charged(x, charge);
        }
        return x;
    }

    private static void due(CellTests x, int n, int packs, long sum, String found) {
        String call = "pack(" + n + ", " + packs + ")";
        CHECK.is(call, x.pack(n, packs), sum);
        String got = Cells.packs(x);
        String due = (found + "--------").substring(0, 8);
        if (!got.equals(due)) {
            CHECK.is(call + " found " + got + ", due is " + due, 1, 0);
        }
    }

    public static void main(String[] args) {
        leastSum();
        firstOfEqual();
        belowZero();
        whichCells();
        refused();
        CHECK.end();
    }

    private static void leastSum() {
        CellTests x = of(10, 50, 12, 48, 90, 11, 52, 10);
        due(x, 2, 4, 41, "01213230");
        due(x, 3, 2, 5, "01-1-010");
        due(x, 4, 2, 44, "01011010");
        due(x, 2, 3, 3, "0121-2-0");
        due(x, 4, 1, 2, "0-0--0-0");
        // Taking the closest pair first would cost 1 + 21, the best packs cost 10 + 10.
        due(of(0, 10, 11, 21), 2, 2, 20, "0011");
        due(of(5, 0, 5, 10), 2, 2, 10, "0011");
        due(of(100, 7, 9, 101), 2, 1, 1, "0--0");
    }

    private static void firstOfEqual() {
        CellTests x = of(5, 5, 5, 5, 5, 5, 5, 5);
        due(x, 1, 1, 0, "0-------");
        due(x, 1, 4, 0, "0123----");
        due(x, 2, 2, 0, "0011----");
        due(x, 2, 4, 0, "00112233");
        due(x, 3, 2, 0, "000111--");
        due(x, 4, 2, 0, "00001111");
        due(x, 3, 1, 0, "000-----");
        due(x, 5, 1, -1, "000-----");
        due(x, 1, 5, -1, "000-----");
        due(x, 3, 3, -1, "000-----");
        // Pairs (0 2) and (1 3) are alike in spread; a cell in none counts as more than one in 0.
        due(of(1, 2, 1, 2), 2, 1, 0, "0-0-");
        due(of(9, 1, 2, 2, 1), 2, 1, 0, "-0--0");
    }

    private static void belowZero() {
        due(of(-10, 10, -9, 8), 2, 2, 3, "0101");
        due(of(-83000, 83000), 2, 1, 166000, "00");
    }

    private static void whichCells() {
        CellTests x = of(5, 5, 5, 5);
        x.step(0, 1, 5, 5001);
        x.cell();
        x.cell();
        x.rest(5, 1, 3700);
        x.cell();
        x.step(6, 3600, 5, 3700);
        Cells.charged(x, 9);
        due(x, 2, 2, 4, "-001---1");
        CHECK.is("four of four cells", x.pack(1, 4), 0);
        CHECK.is("three pairs of four cells", x.pack(2, 3), -1);
        x.rest(1, 2, 999);
        CHECK.is("a pack of four of three cells", x.pack(4, 1), -1);
        due(x, 3, 1, 4, "--00---0");
    }

    private static void refused() {
        CellTests x = of(3, 1, 2);
        CHECK.is("a pack before pack()", x.packOf(0), -1);
        due(x, 2, 1, 1, "0-0");
        int[][] wrong = {
            {0, 1}, {1, 0}, {-1, 1}, {1, -1}, {5, 1}, {1, 5}, {2, 2}, {4, 1}, {4, 4}, {1, 4},
            {Integer.MIN_VALUE, Integer.MIN_VALUE}, {Integer.MAX_VALUE, 2}, {2, Integer.MAX_VALUE},
            {65536, 65536},
        };
        for (int[] w : wrong) {
            due(x, w[0], w[1], -1, "0-0");
        }
        due(x, 3, 1, 2, "000");
        due(x, 1, 3, 0, "012");
    }
}
