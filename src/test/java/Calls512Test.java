/**
 * What it is, "An object is used for at most 512 calls after it has been made": the 512th call is
 * one of them, whichever it is, and many refused calls before it make no difference. This is for
 * all promises, 2 to 19.
 */
public final class Calls512Test {
    private static final Check CHECK = new Check("Calls512");
    private static final int MOST = 512;

    private interface Call {
        long on(CellTests x);
    }

    public static void main(String[] args) {
        of("cell()", x -> x.cell(), 2);
        of("span(0, 0)", x -> of(x.span(0, 0)), 1);
        of("warm(1, 5)", x -> of(x.warm(1, 5)), 1);
        of("step(1, ..)", x -> of(x.step(1, 1, 1, 1)), 1);
        of("rest(1, ..)", x -> of(x.rest(1, 9, 1)), 1);
        of("charge(0)", x -> x.charge(0), 10);
        of("resistance(0, 0)", x -> x.resistance(0, 0), 9);
        of("loss(0, 1)", x -> x.loss(0, 1), 3);
        of("unit(32)", x -> of(x.unit(32)), 1);
        of("rules()", x -> x.rules(), 0);
        of("cls(0)", x -> x.cls(0), 6);
        of("unsafe(0)", x -> of(x.unsafe(0)), 0);
        of("may(0, 2)", x -> of(x.may(0, 2)), 1);
        of("pack(2, 1)", x -> x.pack(2, 1), 1);
        of("packOf(1)", x -> x.packOf(1), 1);
        of("row(1, 0)", x -> of(x.row(1, 0)), 1);
        of("fade(0, 1)", x -> x.fade(0, 1), 9);
        of("record(0, 5)", x -> x.record(0, 5), '6');
        longestText();
        CHECK.end();
    }

    private static long of(boolean answer) {
        return answer ? 1 : 0;
    }

    private static void of(String name, Call call, long due) {
        CHECK.is(name + " as the last call", call.on(told(false)), due);
        CHECK.is(name + " behind refused calls", call.on(told(true)), due);
    }

    /** An object behind 511 calls: two cells, rules, packs and a row, and then calls to fill up. */
    private static CellTests told(boolean refused) {
        CellTests x = Cells.of(10, 11);
        x.step(0, 36, 20, 3790);
        x.rest(0, 4, 3690);
        String rules = "class 6";
        Cells.rules(x, rules);
        x.pack(1, 2);
        x.row(0, 100);
        int calls = 2 * 3 + 2 + rules.length() + 1 + 2;
        for (int i = calls; i < MOST - 1; i++) {
            if (refused) {
                x.step(i, 0, -i, i);
            } else {
                x.charge(0);
            }
        }
        return x;
    }

    /** Promise 11, "Answers how many sentences it has": of the longest text that can be read. */
    private static void longestText() {
        CellTests x = new CellTests();
        String words = "class 1 q 0 9";
        Cells.tell(x, words + " ".repeat(MOST - 1 - words.length() - 1) + "x");
        CHECK.is("rules() of 511 bytes", x.rules(), -6);
        CellTests y = new CellTests();
        Cells.tell(y, " ".repeat(MOST - 1 - words.length()) + words);
        CHECK.is("rules() of 511 bytes", y.rules(), 1);
    }
}
