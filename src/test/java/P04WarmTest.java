/** Promise 4: warm. */
public final class P04WarmTest {
    public static void main(String[] args) {
        Check check = new Check("P04");
        CellTests x = new CellTests();
        check.no("warm of no cell", x.warm(0, 5));
        x.cell();
        x.cell();
        x.span(0, 100);
        check.yes("a new cell's warmth is 0", x.step(0, 1, 1, 1));
        check.yes("warm(0, 100)", x.warm(0, 100));
        check.no("warm(0, 101)", x.warm(0, 101));
        check.no("it became 101, outside the span", x.step(0, 1, 1, 1));
        check.yes("another cell's stays", x.step(1, 1, 1, 1));

        check.no("warm(0, -1)", x.warm(0, -1));
        check.no("warm(0, 1000001)", x.warm(0, 1000001));
        check.no("warm(2, 5)", x.warm(2, 5));
        check.no("warm(-1, 5)", x.warm(-1, 5));
        x.span(101, 101);
        check.yes("refused ones left it at 101", x.step(0, 1, 1, 1));
        check.no("and the other at 0", x.step(1, 1, 1, 1));

        x.span(0, 1000000);
        check.yes("warm(0, 1000000)", x.warm(0, 1000000));
        check.yes("warm(0, 0)", x.warm(0, 0));
        check.end();
    }
}
