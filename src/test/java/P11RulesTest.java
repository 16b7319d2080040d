/** Promise 11: rules. */
public final class P11RulesTest {
    private static final Check CHECK = new Check("P11");

    public static void main(String[] args) {
        emptyText();
        words();
        howMany();
        atMostTwenty();
        theTwentieth();
        classWord();
        classNumber();
        letters();
        clausesNoneOrMore();
        upToTheNextClass();
        digits();
        minus();
        firstAtMostSecond();
        firstWordThatCannotStand();
        moreShouldCome();
        textIsEmptyThen();
        rulesThen();
        noClausesThen();
        rulesStay();
        noneThen();
        CHECK.end();
    }

    private static void due(String text, int answer) {
        CellTests x = new CellTests();
        CHECK.is("rules() of '" + text.replace("\n", "\\n") + "'", Cells.rules(x, text), answer);
    }

    /** Promise 11, "Answers how many sentences it has": none in a text without words. */
    private static void emptyText() {
        due("", 0);
        due(" ", 0);
        due("\n", 0);
        due(" \n  \n ", 0);
    }

    /** Terms, "words are its rows of bytes other than 32 and 10": no other byte parts them. */
    private static void words() {
        due("class 1", 1);
        due("class\n1", 1);
        due("\n class \n 1 \n", 1);
        due("  class   1   q\n\n0 20  ", 1);
        due("class1", -1);
        int[] others = {0, 9, 11, 13, 31, 33, 127, 128, 160, 255};
        for (int b : others) {
            due("class" + (char) b + "1", -1);
            due("class 1" + (char) b, -2);
            due((char) b + "class 1", -1);
            due("class 1 " + (char) b, -3);
        }
    }

    /** Promise 11, "Answers how many sentences it has". */
    private static void howMany() {
        due("class 1", 1);
        due("class 1 class 1", 2);
        due("class 1 class 1 class 2 q 1 1 class 3", 4);
    }

    /** Promise 11, "at most 20": the 21st sentence's first word cannot stand. */
    private static void atMostTwenty() {
        due("class 1 ".repeat(19), 19);
        due("class 1 ".repeat(20), 20);
        due("class 1 ".repeat(21), -1 - 40);
        due("class 1 ".repeat(20) + "class", -1 - 40);
        due("class 1 ".repeat(20) + "q 0 1", 20);
        due("class 1 ".repeat(20) + "q 0 1 class 1", -1 - 43);
        due("class 1 ".repeat(20) + "x", -1 - 40);
    }

    /** Promise 11, "at most 20 (they are the rules then)": the first and the 20th among them. */
    private static void theTwentieth() {
        CellTests x = Cells.of(5);
        CHECK.is("20 sentences", Cells.rules(x, "class 1 q 9 9 ".repeat(19) + "class 2"), 20);
        CHECK.is("cls by the 20th", x.cls(0), 2);
        CellTests y = Cells.of(5);
        CHECK.is("20 sentences", Cells.rules(y, "class 7 " + "class 1 ".repeat(19)), 20);
        CHECK.is("cls by the first", y.cls(0), 7);
        CellTests z = Cells.of(5);
        CHECK.is("21 sentences", Cells.rules(z, "class 1 q 9 9 ".repeat(20) + "class 2"), -101);
        CHECK.is("cls without rules", z.cls(0), 99);
    }

    /** Terms, "a row of SENTENCES: class N": each begins by just this word. */
    private static void classWord() {
        due("x", -1);
        due("1", -1);
        due("q 0 1", -1);
        due("Class 1", -1);
        due("clasS 1", -1);
        due("clas 1", -1);
        due("classs 1", -1);
        due("xclass 1", -1);
        due("class class", -2);
        due("class q", -2);
        due("class 1 2", -3);
        due("class 1 clas 2", -3);
        due("class 1 classs 2", -3);
    }

    /** Promise 11, "N is 0 .. 98". */
    private static void classNumber() {
        due("class -1", -2);
        due("class -999999", -2);
        due("class 0", 1);
        due("class 1", 1);
        due("class 98", 1);
        due("class 99", -2);
        due("class 100", -2);
        due("class 999999", -2);
        due("class 1 class 99", -4);
        CellTests x = Cells.of(5);
        Cells.rules(x, "class 0");
        CHECK.is("cls of class 0", x.cls(0), 0);
        Cells.rules(x, "class 98");
        CHECK.is("cls of class 98", x.cls(0), 98);
    }

    /** Terms, "a letter q, v or r": no other, no capital one, no longer word. */
    private static void letters() {
        due("class 1 q 0 1", 1);
        due("class 1 v 0 1", 1);
        due("class 1 r 0 1", 1);
        String[] wrong = {"p", "s", "u", "w", "x", "Q", "V", "R", "qq", "q0", "qv", "-", "c"};
        for (String w : wrong) {
            due("class 1 " + w + " 0 1", -3);
            due("class 1 q 0 1 " + w + " 0 1", -6);
        }
    }

    /** Terms, "CLAUSES, none or more": as many as a text of an object's calls can hold. */
    private static void clausesNoneOrMore() {
        due("class 1", 1);
        due("class 1 q 0 0", 1);
        due("class 1 q 0 0 v 1 2 r -3 -2 q 4 5", 1);
        due("class 1" + " q 0 0".repeat(84), 1);
        due("class 1" + " q 0 0".repeat(83) + " q 1 0", -1 - (2 + 3 * 83 + 2));
        String most = "class 1" + " q 5 5".repeat(82);
        CellTests x = Cells.of(5);
        CHECK.is("83 clauses", Cells.rules(x, most + " q 5 5"), 1);
        CHECK.is("cls when all hold", x.cls(0), 1);
        CellTests y = Cells.of(5);
        CHECK.is("83 clauses", Cells.rules(y, most + " q 6 6"), 1);
        CHECK.is("cls when the last one does not hold", y.cls(0), 99);
    }

    /** Terms, "a sentence goes up to the next word class, or the end": whose each clause is. */
    private static void upToTheNextClass() {
        String[] texts = {
            "class 1 q 5 5 class 2 q 6 6", "class 1 q 5 5 class 2 q 6 6 ",
            "class 1 q 5 5\nclass 2 q 6 6\n", "class 1 q 5 5 v 0 9999 class 2 class 3 q 7 7",
        };
        for (String text : texts) {
            CellTests x = Cells.of(5, 6);
            Cells.rules(x, text);
            CHECK.is("cls(0) by '" + text + "'", x.cls(0), 1);
            CHECK.is("cls(1) by '" + text + "'", x.cls(1), 2);
        }
        CellTests y = Cells.of(5, 6);
        Cells.rules(y, "class 1 class 2 q 6 6");
        CHECK.is("cls(0) by a sentence without clauses", y.cls(0), 1);
        Cells.rules(y, "class 1 q 6 6 class 2");
        CHECK.is("cls(0) by the last one without clauses", y.cls(0), 2);
        Cells.rules(y, "class 1 q 5 6 q 6 7 class 2 q 4 5");
        CHECK.is("cls(0) by both clauses of the first", y.cls(0), 2);
        CHECK.is("cls(1) by both clauses of the first", y.cls(1), 1);
    }

    /** Terms, "NUMBERS are words of one to six digits": none, one, six and seven of them. */
    private static void digits() {
        due("class 1 q 0 1", 1);
        due("class 1 q 0 999999", 1);
        due("class 1 q 0 1000000", -5);
        due("class 1 q 100000 999999", 1);
        due("class 1 q 1000000 1000001", -4);
        due("class 1 q 000000 000001", 1);
        due("class 1 q 0 0000001", -5);
        due("class 000098", 1);
        due("class 0000098", -2);
        due("class 1 q 0 4294967297", -5);
        due("class 1 q 0 /", -5);
        due("class 1 q 0 9", 1);
        due("class 1 q 0 :", -5);
        due("class 1 q 0 1x", -5);
        due("class 1 q 0 x1", -5);
        due("class 1 q 0 1.", -5);
        due("class 1 q 0 +1", -5);
        due("class 1.", -2);
    }

    /** Terms, "perhaps with - before them": one, before the digits, and not one of the six. */
    private static void minus() {
        due("class 1 q -1 0", 1);
        due("class 1 q -999999 -999999", 1);
        due("class 1 q -1000000 0", -4);
        due("class 1 q -999999 -1000000", -5);
        due("class 1 q - 0", -4);
        due("class 1 q 0 -", -5);
        due("class 1 q --1 0", -4);
        due("class 1 q 1- 2", -4);
        due("class 1 q 0-1 2", -4);
        due("class 1 q - 1 2", -4);
        due("class -", -2);
        due("class -0", 1);
        due("class 1 q -0 0", 1);
        due("class 1 q 0 -0", 1);
        CellTests x = Cells.of(-5);
        Cells.rules(x, "class 1 q -5 -5");
        CHECK.is("cls of charge -5", x.cls(0), 1);
        Cells.rules(x, "class 1 q 5 5");
        CHECK.is("cls of charge -5 by 5 5", x.cls(0), 99);
    }

    /** Promise 11, "of a clause's numbers the first is at most the second". */
    private static void firstAtMostSecond() {
        due("class 1 q 1 2", 1);
        due("class 1 q 2 2", 1);
        due("class 1 q 3 2", -5);
        due("class 1 v 1 0", -5);
        due("class 1 r 0 -1", -5);
        due("class 1 q -2 -1", 1);
        due("class 1 q -1 -2", -5);
        due("class 1 q -999999 999999", 1);
        due("class 1 q 999999 -999999", -5);
        due("class 1 q 999999 999998", -5);
    }

    /** Promise 11, "-1 less the number (from 0 on) of the first word that cannot stand". */
    private static void firstWordThatCannotStand() {
        due("x class 1", -1);
        due("class x 1", -2);
        due("class 1 x 1", -3);
        due("class 1 q x 1", -4);
        due("class 1 q 0 x", -5);
        due("class 1 q 0 1 2", -6);
        due("class 1 q class 2", -4);
        due("class 1 q q 0", -4);
        due("class 1 q 0 class", -5);
        due("class 1 q 0 q 1", -5);
        due("class 1 q 2 1 x", -5);
        due("class 99 x", -2);
        due("class 1 q 0 1 class 2 v 0 x", -10);
        due("x ".repeat(200), -1);
        due("class 1" + " q 0 1".repeat(80) + " x", -1 - 242);
        due("x".repeat(500), -1);
        due("class " + "1".repeat(500), -2);
    }

    /** Promise 11, "(how many words there are, when more should come)". */
    private static void moreShouldCome() {
        due("class", -2);
        due("class ", -2);
        due("class 1 q", -4);
        due("class 1 q 0", -5);
        due("class 1 q 0 \n", -5);
        due("class 1 q 0 1", 1);
        due("class 1 class", -4);
        due("class 1 q 0 1 r", -7);
        due("class 1 q 0 1 r 5", -8);
        due("class 1 ".repeat(19) + "class", -1 - 39);
    }

    /** Promise 11, "Reads the text, which is empty then": behind both kinds of answers. */
    private static void textIsEmptyThen() {
        String[] texts = {"", " ", "class 1", "class 1 q 0 1", "class", "x", "class 1 q 1 0 q"};
        for (String text : texts) {
            CellTests x = new CellTests();
            Cells.rules(x, text);
            CHECK.is("rules() once more behind '" + text + "'", x.rules(), 0);
            CHECK.is("another text behind '" + text + "'", Cells.rules(x, "class 2"), 1);
        }
    }

    /** Promise 11, "(they are the rules then)": instead of all that were, and not before. */
    private static void rulesThen() {
        CellTests x = Cells.of(5);
        Cells.tell(x, "class 7");
        CHECK.is("a text that is not read yet", x.cls(0), 99);
        CHECK.is("rules()", x.rules(), 1);
        CHECK.is("cls", x.cls(0), 7);
        CHECK.is("a shorter text", Cells.rules(x, "class 8 q 6 6"), 1);
        CHECK.is("the rules before are gone", x.cls(0), 99);
        for (int i = 1; i <= 5; i++) {
            Cells.rules(x, "class " + i + " q " + i + " 9");
            CHECK.is("the clauses before are gone", x.cls(0), i);
            Cells.rules(x, "class 1 q 0 " + i + " class 2 q 0 5");
            CHECK.is("the clauses before are gone", x.cls(0), i < 5 ? 2 : 1);
        }
    }

    /** Promise 11, "(they are the rules then)": of a text without clauses, whatever came before. */
    private static void noClausesThen() {
        CellTests x = Cells.of(5);
        String[] before = {"class 1 q 9 9 class 2 q 8 8", "class 1 q 9", "class 1 q 9 9 q 8 8"};
        for (String text : before) {
            Cells.rules(x, text);
            Cells.rules(x, text);
            for (int i = 3; i < 6; i++) {
                Cells.rules(x, "class " + i);
                CHECK.is("cls by 'class " + i + "' behind '" + text + "'", x.cls(0), i);
            }
        }
    }

    /** Promise 11, "rules stay": behind each kind of word that cannot stand. */
    private static void rulesStay() {
        String[] wrong = {
            "x", "class", "class 99", "class 4 q", "class 4 q 5", "class 4 q 5 4", "class 4 4",
            "class 4 class 5 q 5", "class 4 q 5 5 class", "class 4 ".repeat(21),
        };
        for (String text : wrong) {
            CellTests x = Cells.of(5, 6);
            Cells.rules(x, "class 2 q 6 6 class 3 q 5 5");
            CHECK.yes("rules() of '" + text + "' below 0", Cells.rules(x, text) < 0);
            CHECK.is("cls(0) behind '" + text + "'", x.cls(0), 3);
            CHECK.is("cls(1) behind '" + text + "'", x.cls(1), 2);
            Cells.rules(x, "x");
            CHECK.is("cls(0) behind two wrong texts", x.cls(0), 3);
            Cells.rules(x, "class 6");
            CHECK.is("cls(0) by new rules", x.cls(0), 6);
        }
    }

    /** Promise 11, "(they are the rules then)": no sentences are no rules. */
    private static void noneThen() {
        CellTests x = Cells.of(5);
        Cells.rules(x, "class 3");
        CHECK.is("cls", x.cls(0), 3);
        CHECK.is("rules() of an empty text", x.rules(), 0);
        CHECK.is("cls without rules", x.cls(0), 99);
        Cells.rules(x, "class 3");
        CHECK.is("rules() of blanks", Cells.rules(x, " \n"), 0);
        CHECK.is("cls without rules", x.cls(0), 99);
    }
}
