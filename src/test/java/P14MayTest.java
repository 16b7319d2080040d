/** Promise 14: may. */
public final class P14MayTest {
    private static final Check CHECK = new Check("P14");

    /** due: for each of the acts -1 .. 5 a 1 or a 0. */
    private static void due(CellTests x, int cell, String when, String due) {
        for (int act = -1; act <= 5; act++) {
            CHECK.is(when + ", act " + act, x.may(cell, act) ? 1 : 0, due.charAt(act + 1) - '0');
        }
    }

    public static void main(String[] args) {
        CellTests x = new CellTests();
        due(x, 0, "no cell", "0000000");
        x.cell();
        due(x, -1, "cell -1", "0000000");
        due(x, 1, "cell 1", "0000000");
        due(x, 0, "open, no step and no rest", "0100010");
        x.step(0, 1, 1, 3700);
        due(x, 0, "open, no rest", "0100010");
        x.step(0, 1, 1, 5001);
        due(x, 0, "open and unsafe", "0000110");
        CHECK.yes("step() does not ask", x.step(0, 1, 1, 3700));
        x.rest(0, 1, 3700);
        due(x, 0, "neither", "0111100");
        x.rest(0, 2, 999);
        due(x, 0, "unsafe", "0000110");
        CHECK.yes("rest() does not ask", x.rest(0, 3, 1000));
        due(x, 0, "neither", "0111100");
        CHECK.no("act MIN", x.may(0, Integer.MIN_VALUE));
        CHECK.no("act MAX", x.may(0, Integer.MAX_VALUE));

        x.cell();
        x.rest(1, 1, 3700);
        due(x, 1, "open, no step", "0100010");
        CHECK.end();
    }
}
