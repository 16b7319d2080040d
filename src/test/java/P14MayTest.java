/** Promise 14: may. */
public final class P14MayTest {
    private static final Check CHECK = new Check("P14");

    public static void main(String[] args) {
        unsafeOnes();
        openOnes();
        others();
        edges();
        noSuchAct();
        noSuchCell();
        notAsked();
        CHECK.end();
    }

    /** due: those of the acts 0 .. 4 that may be done; -1 and 5 never may. */
    private static void due(CellTests x, int cell, String when, String due) {
        StringBuilder acts = new StringBuilder();
        for (int act = -1; act <= 5; act++) {
            acts.append(x.may(cell, act) ? String.valueOf(act) : "");
        }
        CHECK.is("the acts, " + when, acts.toString(), due);
    }

    /** Promise 14, "an unsafe one (open or not) may be emptied and stored apart alone". */
    private static void unsafeOnes() {
        CellTests x = Cells.of(5);
        x.rest(0, 2, 999);
        due(x, 0, "unsafe by its rest", "34");
        x.rest(0, 3, 3700);
        x.step(0, 1, 1, 5001);
        due(x, 0, "unsafe by its step", "34");
        CellTests y = Cells.fresh(2);
        y.step(0, 1, 1, 5001);
        due(y, 0, "unsafe and open, without a rest", "34");
        y.rest(1, 1, 4501);
        due(y, 1, "unsafe and open, without a step", "34");
    }

    /** Promise 14, "another open one may be tested and stored apart alone". */
    private static void openOnes() {
        CellTests x = Cells.fresh(3);
        x.step(1, 1, 1, 3700);
        x.rest(2, 1, 3700);
        due(x, 0, "neither step nor rest", "04");
        due(x, 1, "no rest", "04");
        due(x, 2, "no step", "04");
    }

    /** Promise 14, "others everything but be stored apart". */
    private static void others() {
        due(Cells.of(5), 0, "neither open nor unsafe", "0123");
    }

    /** Promise 14, "an unsafe one" and "others": on both sides of what is unsafe. */
    private static void edges() {
        CellTests x = Cells.of(5);
        int[][] rests = {{999, 0}, {1000, 1}, {4500, 1}, {4501, 0}};
        int day = 2;
        for (int[] r : rests) {
            x.rest(0, day++, r[0]);
            due(x, 0, "a rest of " + r[0], r[1] == 1 ? "0123" : "34");
        }
        x.rest(0, day, 3700);
        x.step(0, 1, 1, 5000);
        due(x, 0, "a step of 5000", "0123");
        x.step(0, 1, 1, 5001);
        due(x, 0, "a step of 5001", "34");
    }

    /** Promise 14, "False when there are none such": acts below 0 and above 4. */
    private static void noSuchAct() {
        CellTests x = Cells.of(5);
        x.cell();
        x.cell();
        x.rest(2, 1, 0);
        int[] wrong = {-1, 5, 6, Integer.MIN_VALUE, Integer.MAX_VALUE};
        for (int act : wrong) {
            for (int cell = 0; cell < 3; cell++) {
                CHECK.no("may(" + cell + ", " + act + ")", x.may(cell, act));
            }
        }
    }

    /** Promise 14, "False when there are none such": no such cell. */
    private static void noSuchCell() {
        CellTests x = new CellTests();
        due(x, 0, "cell 0 of none", "");
        Cells.charged(x, 5);
        Cells.charged(x, 5);
        for (int cell : Cells.NONE_OF_TWO) {
            due(x, cell, "cell " + cell, "");
        }
        due(x, 1, "cell 1", "0123");
    }

    /** Promise 14, "(step() and rest() do not ask this.)": an unsafe one takes both. */
    private static void notAsked() {
        CellTests x = Cells.of(5);
        x.rest(0, 2, 999);
        CHECK.no("may(0, 0)", x.may(0, 0));
        CHECK.yes("a step of an unsafe one", x.step(0, 3600, 1, 5001));
        CHECK.yes("a rest of an unsafe one", x.rest(0, 3, 3700));
        CHECK.no("may(0, 0)", x.may(0, 0));
        CHECK.yes("a step of an unsafe one", x.step(0, 3600, 1, 3700));
        CHECK.yes("may(0, 0)", x.may(0, 0));
        CHECK.is("charge", x.charge(0), 7);
    }
}
