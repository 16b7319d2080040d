/** Promise 3: span. */
public final class P03SpanTest {
    private static final Check CHECK = new Check("P03");

    public static void main(String[] args) {
        atFirst();
        leastAndGreatest();
        lowAtMostHigh();
        becomes();
        refused();
        CHECK.end();
    }

    /** The span is low .. high: seen by warm() on both sides of both ends. */
    private static void due(CellTests x, String when, int low, int high) {
        CHECK.no(when + ": " + (low - 1), x.warm(0, low - 1));
        CHECK.yes(when + ": " + low, x.warm(0, low));
        CHECK.yes(when + ": " + high, x.warm(0, high));
        CHECK.no(when + ": " + (high + 1), x.warm(0, high + 1));
    }

    /** Terms, "THE SPAN of warmths, 0 .. 1000000 at first". */
    private static void atFirst() {
        due(Cells.fresh(1), "at first", 0, 1000000);
    }

    /** Promise 3, "0 .. 1000000": the ends may be the least and the greatest, and none beyond. */
    private static void leastAndGreatest() {
        CellTests x = Cells.fresh(1);
        CHECK.no("span(-1, 5)", x.span(-1, 5));
        CHECK.yes("span(0, 5)", x.span(0, 5));
        CHECK.yes("span(5, 1000000)", x.span(5, 1000000));
        CHECK.no("span(5, 1000001)", x.span(5, 1000001));
        CHECK.yes("span(0, 0)", x.span(0, 0));
        CHECK.no("span(-1, -1)", x.span(-1, -1));
        CHECK.no("span(-1, 0)", x.span(-1, 0));
        CHECK.yes("span(1000000, 1000000)", x.span(1000000, 1000000));
        CHECK.no("span(1000001, 1000001)", x.span(1000001, 1000001));
        CHECK.no("span(1000000, 1000001)", x.span(1000000, 1000001));
        CHECK.no("span(MIN, MAX)", x.span(Integer.MIN_VALUE, Integer.MAX_VALUE));
        CHECK.no("span(0, MAX)", x.span(0, Integer.MAX_VALUE));
        CHECK.no("span(MIN, 0)", x.span(Integer.MIN_VALUE, 0));
    }

    /** Promise 3, "low at most high": equal ones are a span, one more than high is none. */
    private static void lowAtMostHigh() {
        CellTests x = Cells.fresh(1);
        CHECK.yes("span(6, 7)", x.span(6, 7));
        CHECK.yes("span(7, 7)", x.span(7, 7));
        CHECK.no("span(8, 7)", x.span(8, 7));
        CHECK.no("span(1, 0)", x.span(1, 0));
        CHECK.no("span(1000000, 999999)", x.span(1000000, 999999));
        CHECK.no("span(MAX, MIN)", x.span(Integer.MAX_VALUE, Integer.MIN_VALUE));
    }

    /** Promise 3, "The span of warmths becomes low .. high": wider, narrower, one warmth alone. */
    private static void becomes() {
        CellTests x = Cells.fresh(1);
        int[][] spans = {{10, 20}, {7, 7}, {1, 999999}, {0, 0}, {1000000, 1000000}, {0, 1000000}};
        for (int[] s : spans) {
            CHECK.yes("span(" + s[0] + ", " + s[1] + ")", x.span(s[0], s[1]));
            due(x, s[0] + " .. " + s[1], s[0], s[1]);
        }
    }

    /** Terms, "A call that is refused changes nothing": both ends stay where they were. */
    private static void refused() {
        int[][] wrong = {
            {8, 7}, {-1, 5}, {-1, 15}, {5, 1000001}, {15, 1000001}, {1000001, 5}, {-5, -6},
            {Integer.MIN_VALUE, Integer.MAX_VALUE}, {Integer.MAX_VALUE, Integer.MIN_VALUE},
        };
        for (int[] w : wrong) {
            CellTests x = Cells.fresh(1);
            x.span(10, 20);
            CHECK.no("span(" + w[0] + ", " + w[1] + ")", x.span(w[0], w[1]));
            due(x, "behind span(" + w[0] + ", " + w[1] + ")", 10, 20);
        }
    }
}
