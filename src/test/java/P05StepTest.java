/** Promise 5: step. */
public final class P05StepTest {
    private static final Check CHECK = new Check("P05");

    public static void main(String[] args) {
        edges();
        warmth();
        most();
        CHECK.end();
    }

    private static void edges() {
        CellTests x = new CellTests();
        x.cell();
        CHECK.yes("step(0, 3600, 5, 5000)", x.step(0, 3600, 5, 5000));
        int[][] wrong = {
            {-1, 1, 1, 1}, {1, 1, 1, 1}, {8, 1, 1, 1}, {0, 0, 1, 1}, {0, -1, 1, 1},
            {0, 100001, 1, 1}, {0, 1, -100001, 1}, {0, 1, 100001, 1}, {0, 1, 1, -1},
            {0, 1, 1, 10001}, {0, Integer.MIN_VALUE, 1, 1}, {0, 1, Integer.MIN_VALUE, 1},
            {0, 1, 1, Integer.MAX_VALUE},
        };
        for (int[] w : wrong) {
            CHECK.no(java.util.Arrays.toString(w), x.step(w[0], w[1], w[2], w[3]));
        }
        CHECK.is("charge behind refused steps", x.charge(0), 5);
        CHECK.is("resistance behind refused steps", x.resistance(0, 0), -1);
        CHECK.no("unsafe behind refused steps", x.unsafe(0));

        CHECK.yes("the least of all", x.step(0, 1, -100000, 0));
        CHECK.yes("the most of all", x.step(0, 100000, 100000, 10000));
        CHECK.is("charge", x.charge(0), (18000L - 100000L + 10000000000L) / 3600);
    }

    private static void warmth() {
        CellTests x = new CellTests();
        x.cell();
        x.span(10, 20);
        CHECK.no("too cold", x.step(0, 3600, 1, 1));
        x.warm(0, 10);
        CHECK.yes("just warm enough", x.step(0, 3600, 1, 1));
        x.warm(0, 21);
        CHECK.no("too warm", x.step(0, 3600, 1, 1));
        x.warm(0, 20);
        CHECK.yes("just cold enough", x.step(0, 3600, 1, 1));
        x.span(0, 19);
        CHECK.no("too warm for a later span", x.step(0, 3600, 1, 1));
        CHECK.is("charge of the two taken", x.charge(0), 2);
        CHECK.yes("rests do not ask for warmth", x.rest(0, 1, 1));
    }

    private static void most() {
        CellTests x = new CellTests();
        x.cell();
        x.cell();
        for (int i = 0; i < 30; i++) {
            CHECK.yes("step " + i, x.step(0, 3600, 1, 1));
        }
        CHECK.no("a 31st step", x.step(0, 3600, 1, 9000));
        CHECK.is("charge of 30", x.charge(0), 30);
        CHECK.no("unsafe behind a 31st", x.unsafe(0));
        CHECK.yes("another cell's steps", x.step(1, 3600, 1, 1));
    }
}
