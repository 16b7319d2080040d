/** Promise 9: loss. */
public final class P09LossTest {
    private static final Check CHECK = new Check("P09");

    private static void due(CellTests x, String when, int above, int below) {
        CHECK.is("above, " + when, x.loss(0, 0), above);
        CHECK.is("below, " + when, x.loss(0, 1), below);
    }

    public static void main(String[] args) {
        CellTests x = new CellTests();
        due(x, "of no cell", -1, -1);
        x.cell();
        due(x, "without rests", -1, -1);
        x.rest(0, 4, 4000);
        due(x, "with one rest", -1, -1);
        x.rest(0, 10, 3991);
        due(x, "9 over 6", 3, 2);
        x.rest(0, 11, 4100);
        due(x, "a gain is a loss of 0", 0, 1);
        x.rest(0, 12, 4000);
        due(x, "the same voltage", 0, 1);
        x.rest(0, 24, 3980);
        due(x, "from the first to the last, 20 over 20", 1, 1);
        x.rest(0, 25, 3980);
        due(x, "20 over 21", 20, 21);
        x.rest(0, 100000, 0);
        due(x, "4000 over 99996", 1000, 24999);

        CHECK.is("part 2", x.loss(0, 2), -1);
        CHECK.is("part -1", x.loss(0, -1), -1);
        CHECK.is("cell 1", x.loss(1, 0), -1);
        CHECK.is("cell -1", x.loss(-1, 0), -1);
        CHECK.end();
    }
}
