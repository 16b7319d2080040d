/** Promise 11: rules. */
public final class P11RulesTest {
    private static final Check CHECK = new Check("P11");

    private static void due(String text, int answer) {
        CellTests x = new CellTests();
        CHECK.is("rules() of '" + text.replace("\n", "\\n") + "'", Cells.rules(x, text), answer);
        CHECK.is("rules() behind it: the text is empty then", x.rules(), 0);
    }

    public static void main(String[] args) {
        whole();
        wordsThatCannotStand();
        moreShouldCome();
        numbers();
        most();
        state();
        CHECK.end();
    }

    private static void whole() {
        due("", 0);
        due(" \n \n", 0);
        due("class 0", 1);
        due("class 98", 1);
        due("\nclass\n1\n", 1);
        due("class 1 q 0 0", 1);
        due("class 1 q 0 0 v 1 2 r -3 -2 q 4 5", 1);
        due("class 1 class 1 class 2 q 1 1 class 3", 4);
        due("  class   1   q\n\n0 20  ", 1);
    }

    private static void wordsThatCannotStand() {
        due("x", -1);
        due("1", -1);
        due("q 0 1", -1);
        due("Class 1", -1);
        due("clas 1", -1);
        due("classs 1", -1);
        due("class1", -1);
        due("class class", -2);
        due("class q", -2);
        due("class 99", -2);
        due("class -1", -2);
        due("class 1 2", -3);
        due("class 1 x 0 1", -3);
        due("class 1 Q 0 1", -3);
        due("class 1 qq 0 1", -3);
        due("class 1 q0 1", -3);
        due("class 1 q class 2", -4);
        due("class 1 q q 0", -4);
        due("class 1 q 0 class", -5);
        due("class 1 q 1 0", -5);
        due("class 1 q -1 -2", -5);
        due("class 1 q 0 1 2", -6);
        due("class 1 q 0 1 class 2 v 0 x", -10);
        due("class 1\tq 0 1", -2);
        due("class\r1", -1);
        due("class 1 q 2 1 x", -5);
    }

    private static void moreShouldCome() {
        due("class", -2);
        due("class 1 q", -4);
        due("class 1 q 0", -5);
        due("class 1 q 0 ", -5);
        due("class 1 class", -4);
        due("class 1 q 0 1 r", -7);
    }

    private static void numbers() {
        due("class 000098", 1);
        due("class 0000098", -2);
        due("class -0", 1);
        due("class +1", -2);
        due("class 1.", -2);
        due("class -", -2);
        due("class --1", -2);
        due("class 1-", -2);
        due("class 1 q -999999 999999", 1);
        due("class 1 q -000001 000001", 1);
        due("class 1 q -1000000 0", -4);
        due("class 1 q 0 1000000", -5);
        due("class 1 q - 0", -4);
        due("class 1 q 0 -", -5);
        due("class 1 q 0 0", 1);
        due("class 1 q -0 0", 1);
        due("class 1 q 0 -0", 1);
        due("class 1 q 5 :", -5);
        due("class 1 q 5 /", -5);
        due("class 1 q -5 ;", -5);
    }

    private static void most() {
        due("class 1 ".repeat(20), 20);
        due("class 1 ".repeat(21), -41);
        due("class 1 ".repeat(20) + "q 0 1", 20);
        due("class 1 ".repeat(20) + "q 0 1 class", -44);
        due("class 1" + " q 0 0".repeat(80), 1);
        due("class 1" + " q 0 0".repeat(80) + " q 1 0", -1 - (2 + 240 + 2));
    }

    private static void state() {
        CellTests x = new CellTests();
        Cells.charged(x, 5);
        CHECK.is("class 3", Cells.rules(x, "class 3"), 1);
        CHECK.is("cls", x.cls(0), 3);
        CHECK.is("a wrong text", Cells.rules(x, "class 4 class 5 q 5"), -7);
        CHECK.is("rules stay", x.cls(0), 3);
        CHECK.is("the wrong text is gone", Cells.rules(x, "class 6"), 1);
        CHECK.is("cls by the new rules", x.cls(0), 6);
        Cells.tell(x, "class 7");
        CHECK.is("a text that is not read yet changes nothing", x.cls(0), 6);
        CHECK.is("rules()", x.rules(), 1);
        CHECK.is("cls", x.cls(0), 7);
        CHECK.is("rules() of an empty text", x.rules(), 0);
        CHECK.is("no rules then", x.cls(0), 99);

        for (int i = 1; i <= 5; i++) {
            Cells.rules(x, "class " + i + " q " + i + " 9");
            CHECK.is("clauses of earlier texts are gone", x.cls(0), i);
            Cells.rules(x, "class 1 q 0 " + i + " class 2 q 0 5");
            CHECK.is("clauses of earlier texts are gone", x.cls(0), i < 5 ? 2 : 1);
        }
    }
}
