/** Promise 12: cls. */
public final class P12ClsTest {
    private static final Check CHECK = new Check("P12");

    public static void main(String[] args) {
        open();
        noSuchCell();
        unsafeOnesToo();
        byCharge();
        byChargeBelow0();
        byRest();
        byResistance();
        noResistance();
        allClauses();
        firstSentence();
        noneDoes();
        ofNow();
        CHECK.end();
    }

    private static void due(CellTests x, String text, int answer) {
        Cells.rules(x, text);
        CHECK.is("cls by '" + text + "'", x.cls(0), answer);
    }

    /** A cell of charge 10, resistance 19 over 2, rests of 3600 and then 3650. */
    private static CellTests cell() {
        CellTests x = Cells.fresh(1);
        x.step(0, 3600, 10, 3600);
        x.step(0, 36, 20, 3695);
        x.rest(0, 1, 3600);
        x.rest(0, 2, 3650);
        return x;
    }

    /** By a cell of its own, that of cell(). */
    private static void due(String text, int answer) {
        due(cell(), text, answer);
    }

    /** Promise 12, "NONE when it is open"; Terms, "OPEN when it has no step or no rest". */
    private static void open() {
        CellTests x = Cells.fresh(2);
        Cells.rules(x, "class 5");
        CHECK.is("neither step nor rest", x.cls(0), -1);
        x.step(0, 3600, 1, 3700);
        CHECK.is("no rest", x.cls(0), -1);
        x.rest(0, 1, 3700);
        CHECK.is("a step and a rest", x.cls(0), 5);
        x.rest(1, 1, 3700);
        CHECK.is("no step", x.cls(1), -1);
        x.step(1, 3600, 1, 3700);
        CHECK.is("a rest and a step", x.cls(1), 5);
    }

    /** Promise 12, "or there is none such". */
    private static void noSuchCell() {
        CellTests x = new CellTests();
        Cells.rules(x, "class 5");
        CHECK.is("cls(0) without cells", x.cls(0), -1);
        Cells.charged(x, 1);
        Cells.charged(x, 1);
        for (int cell : Cells.NONE_OF_TWO) {
            CHECK.is("cls(" + cell + ")", x.cls(cell), -1);
        }
        CHECK.is("cls(0)", x.cls(0), 5);
        CHECK.is("cls(1)", x.cls(1), 5);
    }

    /** Terms, "THE CLASS of a cell that is not open": an unsafe one has a class, too. */
    private static void unsafeOnesToo() {
        CellTests x = Cells.of(1);
        x.rest(0, 2, 999);
        due(x, "class 5", 5);
    }

    /** Terms, "the charge (q) .. is from the first number to the second one". */
    private static void byCharge() {
        due("class 1 q 10 10", 1);
        due("class 1 q 9 10", 1);
        due("class 1 q 10 11", 1);
        due("class 1 q 0 9", 99);
        due("class 1 q 11 99", 99);
        CellTests x = Cells.fresh(1);
        x.rest(0, 1, 3700);
        for (int i = 0; i < 30; i++) {
            x.step(0, 100000, 100000, 3700);
        }
        due(x, "class 1 q -999999 999999", 99);
    }

    /** Terms, "the charge (q)", down below 0, too. */
    private static void byChargeBelow0() {
        CellTests x = Cells.fresh(1);
        x.step(0, 1, -1, 3600);
        x.rest(0, 1, 3600);
        due(x, "class 1 q -1 -1", 1);
        due(x, "class 1 q 0 0", 99);
        due(x, "class 1 q -9 -2", 99);
        due(x, "class 1 q -2 5", 1);
        due(x, "class 1 q 1 1", 99);
    }

    /** Terms, "the last rest's voltage (v)", from the first number to the second one. */
    private static void byRest() {
        due("class 1 v 3650 3650", 1);
        due("class 1 v 3600 3650", 1);
        due("class 1 v 3650 3700", 1);
        due("class 1 v 0 3649", 99);
        due("class 1 v 3651 9999", 99);
        due("class 1 v 3600 3600", 99);
        due("class 1 v -3650 -3650", 99);
        CellTests x = Cells.of(1);
        x.rest(0, 2, 0);
        due(x, "class 1 v 0 0", 1);
        due(x, "class 1 v 1 9", 99);
        x.rest(0, 3, 10000);
        due(x, "class 1 v 10000 10000", 1);
        due(x, "class 1 v 0 9999", 99);
    }

    /** Terms, "the resistance's whole part, down (r": 19 over 2 is 9. */
    private static void byResistance() {
        due("class 1 r 9 9", 1);
        due("class 1 r 0 9", 1);
        due("class 1 r 9 99", 1);
        due("class 1 r 0 8", 99);
        due("class 1 r 10 99", 99);
        CellTests x = Cells.of(1);
        x.step(0, 1, 4, 3702);
        due(x, "class 1 r 0 0", 1);
        due(x, "class 1 r 1 1", 99);
        x.step(0, 1, 7, 3705);
        due(x, "class 1 r 1 1", 1);
        due(x, "class 1 r 0 0", 99);
        x.step(0, 1, 4, 3710);
        due(x, "class 1 r 1 1", 1);
        due(x, "class 1 r 2 2", 99);
        x.step(0, 1, 4, 0);
        x.step(0, 1, 5, 10000);
        due(x, "class 1 r 10000 10000", 1);
        due(x, "class 1 r 0 9999", 99);
    }

    /** Terms, "(r; none holds never)": not even from the least number to the greatest. */
    private static void noResistance() {
        CellTests x = Cells.of(1);
        due(x, "class 1 r -999999 999999 class 2", 2);
        due(x, "class 1 r 0 0 class 2", 2);
        due(x, "class 1 r -1 -1 class 2", 2);
        x.step(0, 1, 1, 3800);
        due(x, "class 1 r -999999 999999 class 2", 2);
        x.step(0, 1, 2, 3800);
        due(x, "class 1 r 0 0 class 2", 1);
        due(x, "class 1 r 1 1 class 2", 2);
    }

    /** Terms, "of which all clauses hold": none, one, and all but one of several. */
    private static void allClauses() {
        due("class 1", 1);
        due("class 1 q 10 10 v 3650 3650 r 9 9", 1);
        due("class 1 q 9 9 v 3650 3650 r 9 9", 99);
        due("class 1 q 10 10 v 3649 3649 r 9 9", 99);
        due("class 1 q 10 10 v 3650 3650 r 8 8", 99);
        due("class 1 q 0 10 q 10 20", 1);
        due("class 1 q 0 10 q 11 20", 99);
    }

    /** Terms, "N of the first sentence": of several that hold, and behind some that do not. */
    private static void firstSentence() {
        due("class 7 class 2 q 0 10", 7);
        due("class 2 q 0 10 class 7", 2);
        due("class 1 q 0 9 class 2 q 0 10 class 3", 2);
        due("class 1 q 0 9 v 0 9999 class 2 q 0 10 v 0 1 class 3", 3);
        due("class 1 q 0 9 class 1 q 11 11 class 0", 0);
    }

    /** Terms, "99 when none does": no sentence, one, and several that do not hold. */
    private static void noneDoes() {
        CHECK.is("cls without rules", cell().cls(0), 99);
        due("", 99);
        due("class 4 q 0 1", 99);
        due("class 4 q 0 1 class 98 v 0 1 class 0 r 0 1", 99);
        due("class 98", 98);
    }

    /** Promise 12, "A cell's class": by what the cell is now, and each cell by itself. */
    private static void ofNow() {
        CellTests x = Cells.of(5, 6);
        Cells.rules(x, "class 1 q 5 5 class 2 q 6 6");
        CHECK.is("cls(0)", x.cls(0), 1);
        CHECK.is("cls(1)", x.cls(1), 2);
        x.step(0, 3600, 1, 3700);
        CHECK.is("cls(0) behind a step", x.cls(0), 2);
        x.step(1, 3600, 1, 3700);
        CHECK.is("cls(1) behind a step", x.cls(1), 99);
    }
}
