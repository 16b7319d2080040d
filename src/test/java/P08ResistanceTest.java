/** Promise 8: resistance. */
public final class P08ResistanceTest {
    private static final Check CHECK = new Check("P08");

    private static void due(CellTests x, String when, int above, int below) {
        CHECK.is("above, " + when, x.resistance(0, 0), above);
        CHECK.is("below, " + when, x.resistance(0, 1), below);
    }

    public static void main(String[] args) {
        CellTests x = new CellTests();
        due(x, "of no cell", -1, -1);
        x.cell();
        due(x, "without steps", -1, -1);
        x.step(0, 1, 10, 3000);
        due(x, "with one step", -1, -1);
        x.step(0, 1, 10, 4000);
        due(x, "with no change of milliamperes", -1, -1);
        x.step(0, 1, 16, 3996);
        due(x, "of a fall by a rise", 2, 3);
        x.step(0, 1, 16, 9000);
        due(x, "the latest change, not the latest step", 2, 3);
        x.step(0, 1, 15, 9010);
        due(x, "a later change takes over", 10, 1);
        x.step(0, 1, -5, 9010);
        due(x, "no change of voltage is 0 over 1", 0, 1);
        x.step(0, 1, -100000, 0);
        due(x, "both fall", 1802, 19999);
        x.step(0, 1, 100000, 10000);
        due(x, "from end to end", 1, 20);
        x.step(0, 1, 0, 3);
        due(x, "without sign", 9997, 100000);

        CHECK.is("part 2", x.resistance(0, 2), -1);
        CHECK.is("part -1", x.resistance(0, -1), -1);
        CHECK.is("cell 1", x.resistance(1, 0), -1);
        CHECK.is("cell -1", x.resistance(-1, 0), -1);

        CellTests y = new CellTests();
        y.cell();
        y.step(0, 1, 5, 3000);
        due(y, "one step that is not 0 mA", -1, -1);
        y.step(0, 1, 6, 3000);
        y.step(0, 1, 6, 3000);
        y.step(0, 1, 5, 3001);
        due(y, "of neighbours alone", 1, 1);
        CHECK.end();
    }
}
