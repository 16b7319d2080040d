/** Promise 6: rest. */
public final class P06RestTest {
    private static final Check CHECK = new Check("P06");

    public static void main(String[] args) {
        edges();
        most();
        CHECK.end();
    }

    private static void edges() {
        CellTests x = new CellTests();
        CHECK.no("rest of no cell", x.rest(0, 0, 1));
        x.cell();
        x.cell();
        CHECK.no("rest(0, -1, 3000)", x.rest(0, -1, 3000));
        CHECK.no("rest(0, 100001, 3000)", x.rest(0, 100001, 3000));
        CHECK.no("rest(0, 0, -1)", x.rest(0, 0, -1));
        CHECK.no("rest(0, 0, 10001)", x.rest(0, 0, 10001));
        CHECK.no("rest(2, 0, 3000)", x.rest(2, 0, 3000));
        CHECK.no("rest(-1, 0, 3000)", x.rest(-1, 0, 3000));
        CHECK.yes("rest(0, 0, 3000) on day 0", x.rest(0, 0, 3000));
        CHECK.no("the same day", x.rest(0, 0, 2000));
        CHECK.yes("rest(0, 6, 2996)", x.rest(0, 6, 2996));
        CHECK.no("the same day", x.rest(0, 6, 2000));
        CHECK.no("a day before", x.rest(0, 5, 2000));
        CHECK.no("a voltage too high", x.rest(0, 7, 10001));
        CHECK.is("loss above, of the two taken", x.loss(0, 0), 2);
        CHECK.is("loss below, of the two taken", x.loss(0, 1), 3);
        CHECK.yes("the last day, the highest voltage", x.rest(0, 100000, 10000));
        CHECK.yes("highest is unsafe", x.unsafe(0));
        CHECK.no("no day behind it", x.rest(0, 100001, 3000));
        CHECK.yes("another cell's days", x.rest(1, 3, 0));
        CHECK.yes("lowest is unsafe", x.unsafe(1));
    }

    private static void most() {
        CellTests x = new CellTests();
        x.cell();
        for (int i = 0; i < 10; i++) {
            CHECK.yes("rest " + i, x.rest(0, i, 3000));
        }
        CHECK.no("an 11th rest", x.rest(0, 10, 500));
        CHECK.no("unsafe behind an 11th", x.unsafe(0));
        CHECK.is("loss behind an 11th", x.loss(0, 0), 0);
    }
}
