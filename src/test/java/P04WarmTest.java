/** Promise 4: warm. */
public final class P04WarmTest {
    private static final Check CHECK = new Check("P04");

    public static void main(String[] args) {
        atFirst();
        leastAndGreatest();
        inTheSpan();
        becomesOutsideToo();
        noSuchCell();
        refused();
        CHECK.end();
    }

    /** The cell's warmth is just this: a span of it alone takes a step, the spans beside it none. */
    private static void due(CellTests x, int cell, String when, int warmth) {
        if (warmth > 0) {
            x.span(0, warmth - 1);
            CHECK.no(when + ": below " + warmth, x.step(cell, 1, 1, 1));
        }
        x.span(warmth, warmth);
        CHECK.yes(when + ": " + warmth, x.step(cell, 1, 1, 1));
        if (warmth < 1000000) {
            x.span(warmth + 1, 1000000);
            CHECK.no(when + ": above " + warmth, x.step(cell, 1, 1, 1));
        }
    }

    /** Terms, "THE WARMTH of a cell, 0 at first". */
    private static void atFirst() {
        CellTests x = Cells.fresh(1);
        due(x, 0, "a new cell", 0);
        x.warm(0, 9);
        x.cell();
        due(x, 1, "a new cell behind a warm one", 0);
    }

    /** Promise 4, "A cell's warmth becomes 0 .. 1000000". */
    private static void leastAndGreatest() {
        CellTests x = Cells.fresh(1);
        CHECK.no("warm(0, -1)", x.warm(0, -1));
        CHECK.yes("warm(0, 0)", x.warm(0, 0));
        CHECK.yes("warm(0, 1)", x.warm(0, 1));
        due(x, 0, "behind 1", 1);
        x.span(0, 1000000);
        CHECK.yes("warm(0, 999999)", x.warm(0, 999999));
        CHECK.yes("warm(0, 1000000)", x.warm(0, 1000000));
        CHECK.no("warm(0, 1000001)", x.warm(0, 1000001));
        CHECK.no("warm(0, MIN)", x.warm(0, Integer.MIN_VALUE));
        CHECK.no("warm(0, MAX)", x.warm(0, Integer.MAX_VALUE));
        due(x, 0, "behind 1000000", 1000000);
    }

    /** Promise 4, "Answers whether it is in the span then": both sides of both ends. */
    private static void inTheSpan() {
        CellTests x = Cells.fresh(1);
        x.span(2900, 3100);
        CHECK.no("2899", x.warm(0, 2899));
        CHECK.yes("2900", x.warm(0, 2900));
        CHECK.yes("3100", x.warm(0, 3100));
        CHECK.no("3101", x.warm(0, 3101));
        CHECK.no("0", x.warm(0, 0));
        CHECK.no("1000000", x.warm(0, 1000000));
    }

    /** Promise 4, "Answers whether it is in the span then": one outside it has become so, too. */
    private static void becomesOutsideToo() {
        CellTests x = Cells.fresh(2);
        x.span(10, 20);
        CHECK.no("warm(0, 9)", x.warm(0, 9));
        due(x, 0, "below the span", 9);
        x.span(10, 20);
        CHECK.no("warm(0, 21)", x.warm(0, 21));
        due(x, 0, "above the span", 21);
        due(x, 1, "the other cell", 0);
    }

    /** Promise 4, "false also when these are not such": no such cell, the span being all. */
    private static void noSuchCell() {
        CellTests x = new CellTests();
        CHECK.no("warm(0, 5) without cells", x.warm(0, 5));
        x.cell();
        x.cell();
        CHECK.no("warm(-1, 5)", x.warm(-1, 5));
        CHECK.yes("warm(0, 5)", x.warm(0, 5));
        CHECK.yes("warm(1, 6)", x.warm(1, 6));
        CHECK.no("warm(2, 5)", x.warm(2, 5));
        CHECK.no("warm(8, 5)", x.warm(8, 5));
        CHECK.no("warm(MIN, 5)", x.warm(Integer.MIN_VALUE, 5));
        CHECK.no("warm(MAX, 5)", x.warm(Integer.MAX_VALUE, 5));
        due(x, 0, "cell 0", 5);
        due(x, 1, "cell 1", 6);
        x.cell();
        due(x, 2, "a cell that came later", 0);
    }

    /** Terms, "A call that is refused changes nothing": the warmth stays. */
    private static void refused() {
        int[] wrong = {-1, 1000001, Integer.MIN_VALUE, Integer.MAX_VALUE};
        for (int w : wrong) {
            CellTests x = Cells.fresh(1);
            x.warm(0, 101);
            CHECK.no("warm(0, " + w + ")", x.warm(0, w));
            due(x, 0, "behind warm(0, " + w + ")", 101);
        }
    }
}
