/** Promise 13: unsafe. */
public final class P13UnsafeTest {
    public static void main(String[] args) {
        Check check = new Check("P13");
        CellTests x = new CellTests();
        check.no("no cell", x.unsafe(0));
        x.cell();
        check.no("cell -1", x.unsafe(-1));
        check.no("cell 1", x.unsafe(1));
        check.no("a new cell", x.unsafe(0));
        x.step(0, 1, 1, 5000);
        check.no("a step of 5000", x.unsafe(0));
        x.step(0, 1, 1, 5001);
        check.yes("a step of 5001, open", x.unsafe(0));
        x.step(0, 1, 1, 0);
        check.no("the last step alone counts", x.unsafe(0));
        x.rest(0, 1, 999);
        check.yes("a rest of 999", x.unsafe(0));
        x.rest(0, 2, 1000);
        check.no("a rest of 1000", x.unsafe(0));
        x.rest(0, 3, 4501);
        check.yes("a rest of 4501", x.unsafe(0));
        x.rest(0, 4, 4500);
        check.no("a rest of 4500", x.unsafe(0));
        x.step(0, 1, 1, 5001);
        check.yes("a good rest, a bad step", x.unsafe(0));

        x.cell();
        x.rest(1, 0, 0);
        check.yes("a rest of 0, open", x.unsafe(1));
        x.step(1, 1, 1, 4000);
        check.yes("a bad rest, a good step", x.unsafe(1));

        x.cell();
        x.step(2, 1, 1, 5001);
        check.yes("the only step is bad", x.unsafe(2));
        check.end();
    }
}
