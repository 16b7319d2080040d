/** Promise 2: cell. */
public final class P02CellTest {
    private static final Check CHECK = new Check("P02");

    public static void main(String[] args) {
        numbers();
        noneOverEight();
        fullStays();
        apart();
        CHECK.end();
    }

    /** Promise 2, "Answers its number"; Terms, "CELLS are numbered from 0 on, 8 at most". */
    private static void numbers() {
        CellTests x = new CellTests();
        for (int i = 0; i < 8; i++) {
            CHECK.is("charge(" + i + ") before cell()", x.charge(i), Long.MIN_VALUE);
            CHECK.is("cell()", x.cell(), i);
            CHECK.is("charge(" + i + ")", x.charge(i), 0);
            CHECK.is("charge of the one behind it", x.charge(i + 1), Long.MIN_VALUE);
        }
    }

    /** Promise 2, "NONE when there are 8": not at the 8th, but at the 9th and from then on. */
    private static void noneOverEight() {
        CellTests x = Cells.fresh(7);
        CHECK.is("cell() when there are 7", x.cell(), 7);
        CHECK.is("cell() when there are 8", x.cell(), -1);
        CHECK.is("cell() when there are still 8", x.cell(), -1);
    }

    /** Terms, "A call that is refused changes nothing": a 9th cell() neither adds nor clears. */
    private static void fullStays() {
        CellTests x = Cells.of(10, 11, 12, 13, 14, 15, 16, 17);
        x.cell();
        CHECK.is("charge(8)", x.charge(8), Long.MIN_VALUE);
        CHECK.no("step of cell 8", x.step(8, 1, 1, 1));
        for (int i = 0; i < 8; i++) {
            CHECK.is("charge(" + i + ")", x.charge(i), 10 + i);
        }
    }

    /** Promise 2, "One more cell": what is told of one is not told of those beside it. */
    private static void apart() {
        CellTests x = Cells.fresh(8);
        CHECK.yes("step(3)", x.step(3, 3600, 7, 5001));
        CHECK.yes("rest(3)", x.rest(3, 1, 3700));
        for (int i = 0; i < 8; i++) {
            CHECK.is("charge(" + i + ")", x.charge(i), i == 3 ? 7 : 0);
            CHECK.is("cls(" + i + ")", x.cls(i), i == 3 ? 99 : -1);
            CHECK.is("unsafe(" + i + ")", String.valueOf(x.unsafe(i)), String.valueOf(i == 3));
        }
    }
}
