/** Promise 12: cls. */
public final class P12ClsTest {
    private static final Check CHECK = new Check("P12");

    private static void due(CellTests x, String text, int answer) {
        Cells.rules(x, text);
        CHECK.is("cls by '" + text + "'", x.cls(0), answer);
    }

    /** By a cell of its own: charge 10, resistance 19 over 2, last rest 3650. */
    private static void due(String text, int answer) {
        CellTests x = new CellTests();
        x.cell();
        x.step(0, 3600, 10, 3600);
        x.step(0, 36, 20, 3695);
        x.rest(0, 1, 3600);
        x.rest(0, 2, 3650);
        due(x, text, answer);
    }

    public static void main(String[] args) {
        openOrNone();
        clauses();
        below0();
        noResistance();
        CHECK.end();
    }

    private static void openOrNone() {
        CellTests x = new CellTests();
        Cells.rules(x, "class 5");
        CHECK.is("cls of no cell", x.cls(0), -1);
        x.cell();
        CHECK.is("cls(-1)", x.cls(-1), -1);
        CHECK.is("cls(1)", x.cls(1), -1);
        CHECK.is("neither step nor rest", x.cls(0), -1);
        x.step(0, 3600, 1, 3700);
        CHECK.is("no rest", x.cls(0), -1);
        x.rest(0, 1, 500);
        CHECK.is("unsafe, but not open", x.cls(0), 5);
        x.cell();
        x.rest(1, 1, 3700);
        CHECK.is("no step", x.cls(1), -1);
    }

    private static void clauses() {
        due("", 99);
        due("class 98", 98);
        due("class 0", 0);
        due("class 1 q 10 10", 1);
        due("class 1 q 11 99", 99);
        due("class 1 q 0 9", 99);
        due("class 1 v 3650 3650", 1);
        due("class 1 v 3600 3649", 99);
        due("class 1 v 3651 9999", 99);
        due("class 1 r 9 9", 1);
        due("class 1 r 10 99", 99);
        due("class 1 r 0 8", 99);
        due("class 1 q 0 9 class 2 q 0 10 class 3", 2);
        due("class 1 q 0 9 v 0 9999 class 2 q 0 10 v 0 1 class 3", 3);
        due("class 1 q 0 10 q 11 20 class 2 r 9 9 q 10 10 v 3650 3650", 2);
        due("class 7 class 2 q 0 10", 7);
        due("class 4 q 0 1", 99);
    }

    private static void below0() {
        CellTests x = new CellTests();
        x.cell();
        x.step(0, 1, -1, 3600);
        x.rest(0, 1, 3600);
        due(x, "class 1 q -1 -1", 1);
        due(x, "class 1 q 0 0", 99);
        due(x, "class 1 q -2 5", 1);
    }

    private static void noResistance() {
        CellTests x = new CellTests();
        Cells.charged(x, 1);
        due(x, "class 1 r -999999 999999 class 2", 2);
        x.step(0, 1, 2, 3700);
        due(x, "class 1 r 0 0 class 2", 1);
        due(x, "class 1 r 1 1 class 2", 2);
        x.step(0, 1, 4, 3701);
        due(x, "class 1 r 0 0 class 2", 1);
    }
}
