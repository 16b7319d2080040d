/** Promise 3: span. */
public final class P03SpanTest {
    public static void main(String[] args) {
        Check check = new Check("P03");
        CellTests x = new CellTests();
        x.cell();
        check.yes("the first span's low end", x.warm(0, 0));
        check.yes("the first span's high end", x.warm(0, 1000000));

        check.yes("span(10, 20)", x.span(10, 20));
        check.no("span(1, 0)", x.span(1, 0));
        check.no("span(-1, 5)", x.span(-1, 5));
        check.no("span(0, 1000001)", x.span(0, 1000001));
        check.no("span(1000001, 1000001)", x.span(1000001, 1000001));
        check.no("span(-2, -1)", x.span(-2, -1));
        check.no("span(MIN, MAX)", x.span(Integer.MIN_VALUE, Integer.MAX_VALUE));
        check.no("9 behind refused spans", x.warm(0, 9));
        check.yes("10 behind refused spans", x.warm(0, 10));
        check.yes("20 behind refused spans", x.warm(0, 20));
        check.no("21 behind refused spans", x.warm(0, 21));

        check.yes("span(7, 7)", x.span(7, 7));
        check.no("6 in 7 .. 7", x.warm(0, 6));
        check.yes("7 in 7 .. 7", x.warm(0, 7));
        check.no("8 in 7 .. 7", x.warm(0, 8));
        check.yes("span(0, 0)", x.span(0, 0));
        check.yes("span(1000000, 1000000)", x.span(1000000, 1000000));
        check.yes("span(0, 1000000)", x.span(0, 1000000));
        check.end();
    }
}
