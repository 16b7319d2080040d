import java.util.ArrayList;
import java.util.List;

/**
 * Terms, "A call that is refused changes nothing.": of two objects told the same, one is given a
 * refused call; whatever both are asked and told from then on, they answer the same. This is for
 * all promises, 2 to 19; the refused calls of each are listed under its number.
 */
public final class RefusedTest {
    private static final Check CHECK = new Check("Refused");
    private static final int MIN = Integer.MIN_VALUE;
    private static final int MAX = Integer.MAX_VALUE;

    private interface Call {
        long on(CellTests x);
    }

    private interface Maker {
        CellTests make();
    }

    private record Refused(String name, Call call) {
    }

    public static void main(String[] args) {
        List<Refused> calls = new ArrayList<>();
        addTelling(calls);
        addAsking(calls);
        tryAll("nothing told", CellTests::new, calls);
        addBehind(calls);
        tryAll("some told", RefusedTest::some, calls);
        calls.clear();
        addWhenFull(calls);
        tryAll("all full", RefusedTest::full, calls);
        CHECK.end();
    }

    private static void add(List<Refused> calls, String name, Call call) {
        calls.add(new Refused(name, call));
    }

    private static long of(boolean answer) {
        return answer ? 1 : 0;
    }

    /** Promises 3 to 6, 10 and 17: arguments just outside what each takes, and far outside. */
    private static void addTelling(List<Refused> calls) {
        int[] noCell = {-1, 4, 8, MIN, MAX};
        for (int cell : noCell) {
            add(calls, "warm(" + cell + ", 7)", x -> of(x.warm(cell, 7)));
            add(calls, "step(" + cell + ", 3600, 9, 9000)", x -> of(x.step(cell, 3600, 9, 9000)));
            add(calls, "rest(" + cell + ", 50, 0)", x -> of(x.rest(cell, 50, 0)));
        }
        int[][] spans = {{-1, 5}, {5, 1000001}, {8, 7}, {MIN, MAX}};
        for (int[] s : spans) {
            add(calls, "span(" + s[0] + ", " + s[1] + ")", x -> of(x.span(s[0], s[1])));
        }
        int[] warmths = {-1, 1000001, MIN, MAX};
        for (int w : warmths) {
            add(calls, "warm(0, " + w + ")", x -> of(x.warm(0, w)));
        }
        int[][] steps = {
            {0, 9, 9000}, {100001, 9, 9000}, {1, -100001, 9000}, {1, 100001, 9000},
            {1, 9, -1}, {1, 9, 10001}, {MIN, MIN, MIN}, {MAX, MAX, MAX},
        };
        for (int[] s : steps) {
            add(calls, "step(0, " + s[0] + ", " + s[1] + ", " + s[2] + ")",
                    x -> of(x.step(0, s[0], s[1], s[2])));
        }
        int[][] rests = {{-1, 500}, {100001, 500}, {50, -1}, {50, 10001}, {MIN, MIN}, {MAX, MAX}};
        for (int[] r : rests) {
            add(calls, "rest(0, " + r[0] + ", " + r[1] + ")", x -> of(x.rest(0, r[0], r[1])));
        }
        int[] units = {-1, 256, 256 + '1', MIN + '1', MAX};
        for (int u : units) {
            add(calls, "unit(" + u + ")", x -> of(x.unit(u)));
        }
        int[][] rows = {{-1, 500}, {10001, 500}, {50, -1}, {50, 1001}, {MIN, 500}, {MAX, 500}};
        for (int[] r : rows) {
            add(calls, "row(" + r[0] + ", " + r[1] + ")", x -> of(x.row(r[0], r[1])));
        }
    }

    /** Promises 7 to 9, 12 to 16, 18 and 19: what is asked of what is not there. */
    private static void addAsking(List<Refused> calls) {
        int[] noCell = {-1, 4, 8, MIN, MAX};
        for (int cell : noCell) {
            add(calls, "charge(" + cell + ")", x -> x.charge(cell) == Long.MIN_VALUE ? -1 : 1);
            add(calls, "resistance(" + cell + ", 0)", x -> x.resistance(cell, 0));
            add(calls, "loss(" + cell + ", 1)", x -> x.loss(cell, 1));
            add(calls, "cls(" + cell + ")", x -> x.cls(cell));
            add(calls, "unsafe(" + cell + ")", x -> of(x.unsafe(cell)));
            add(calls, "may(" + cell + ", 0)", x -> of(x.may(cell, 0)));
            add(calls, "packOf(" + cell + ")", x -> x.packOf(cell));
            add(calls, "fade(" + cell + ", 1)", x -> x.fade(cell, 1) == Long.MIN_VALUE ? -1 : 1);
            add(calls, "record(" + cell + ", 0)", x -> x.record(cell, 0));
        }
        int[] noPart = {-1, 2, MIN, MAX};
        for (int part : noPart) {
            add(calls, "resistance(1, " + part + ")", x -> x.resistance(1, part));
            add(calls, "loss(1, " + part + ")", x -> x.loss(1, part));
        }
        int[] none = {-1, 10001, MIN, MAX};
        for (int n : none) {
            add(calls, "may(1, " + n + ")", x -> of(x.may(1, n)));
            add(calls, "fade(1, " + n + ")", x -> x.fade(1, n) == Long.MIN_VALUE ? -1 : 1);
            add(calls, "record(1, " + n + ")", x -> x.record(1, n));
        }
        int[][] packs = {{0, 1}, {1, 0}, {5, 1}, {1, 5}, {4, 1}, {2, 2}, {MIN, MIN}, {MAX, MAX}};
        for (int[] p : packs) {
            add(calls, "pack(" + p[0] + ", " + p[1] + ")", x -> x.pack(p[0], p[1]));
        }
    }

    /** Promises 5, 6 and 17: what would be taken but for what some() has told before. */
    private static void addBehind(List<Refused> calls) {
        add(calls, "step(2, 3600, 9, 9000)", x -> of(x.step(2, 3600, 9, 9000)));
        add(calls, "rest(0, 4, 500)", x -> of(x.rest(0, 4, 500)));
        add(calls, "rest(0, 5, 500)", x -> of(x.rest(0, 5, 500)));
        add(calls, "row(2, 500)", x -> of(x.row(2, 500)));
        add(calls, "row(3, 500)", x -> of(x.row(3, 500)));
    }

    /** Promises 2, 5, 6, 15 and 17: what would be taken if all were not full. */
    private static void addWhenFull(List<Refused> calls) {
        add(calls, "cell()", x -> x.cell());
        add(calls, "step(0, 3600, 9, 9000)", x -> of(x.step(0, 3600, 9, 9000)));
        add(calls, "rest(0, 50, 0)", x -> of(x.rest(0, 50, 0)));
        add(calls, "row(50, 1000)", x -> of(x.row(50, 1000)));
        add(calls, "pack(3, 3)", x -> x.pack(3, 3));
        add(calls, "step(1, 3600, 9, 9000)", x -> of(x.step(1, 3600, 9, 9000)));
    }

    /** Four cells, 2 too warm and 3 open and unsafe; rules, packs, a row and a text begun. */
    private static CellTests some() {
        CellTests x = Cells.of(5, 6, 8);
        x.step(1, 36, 4, 3710);
        x.rest(1, 4, 3690);
        x.rest(0, 5, 3600);
        x.cell();
        x.step(3, 3600, 2, 5001);
        Cells.rules(x, "class 4 q 6 6 class 5");
        x.pack(1, 2);
        x.row(3, 100);
        x.span(0, 500);
        x.warm(2, 501);
        Cells.tell(x, "class 1");
        return x;
    }

    /** Eight cells, cell 0 with 30 steps and 10 rests, six rows, cell 1 too warm. */
    private static CellTests full() {
        CellTests x = Cells.of(5, 6, 8, 8, 1, 2, 3, 4);
        for (int i = 2; i <= 30; i++) {
            x.step(0, 3600, i % 2, 3700 + i);
        }
        for (int i = 2; i <= 10; i++) {
            x.rest(0, i, 3700 - i);
        }
        for (int i = 0; i < 6; i++) {
            x.row(i, 10 * i);
        }
        x.pack(2, 3);
        x.span(0, 500);
        x.warm(1, 501);
        return x;
    }

    private static void tryAll(String state, Maker maker, List<Refused> calls) {
        String due = later(maker.make());
        for (Refused refused : calls) {
            CellTests x = maker.make();
            long answer = refused.call.on(x);
            String name = state + ": " + refused.name;
            CHECK.yes(name + " is refused", answer == 0 || answer == -1);
            CHECK.is(name + ", then all else", later(x), due);
        }
    }

    private static String later(CellTests x) {
        StringBuilder answers = new StringBuilder();
        ask(x, answers);
        tell(x, answers);
        ask(x, answers);
        return answers.toString();
    }

    private static void ask(CellTests x, StringBuilder answers) {
        for (int cell = 0; cell < 8; cell++) {
            answers.append(x.charge(cell)).append(' ');
            answers.append(x.resistance(cell, 0)).append('/');
            answers.append(x.resistance(cell, 1)).append(' ');
            answers.append(x.loss(cell, 0)).append('/').append(x.loss(cell, 1)).append(' ');
            answers.append(x.cls(cell)).append(' ').append(x.unsafe(cell)).append(' ');
            answers.append(x.may(cell, 0)).append(x.may(cell, 3)).append(' ');
            answers.append(x.packOf(cell)).append(' ').append(x.fade(cell, 60)).append(' ');
            answers.append(x.record(cell, 2)).append('\n');
        }
    }

    /** Brings out what no answer shows: the text, the last days and cycles, spans and counts. */
    private static void tell(CellTests x, StringBuilder answers) {
        Cells.tell(x, "7");
        answers.append(x.rules()).append(' ').append(x.cls(1)).append('\n');
        for (int cell = 0; cell < 5; cell++) {
            answers.append(x.step(cell, 3600, 7, 3777)).append(' ');
            answers.append(x.rest(cell, 6, 3666)).append('\n');
        }
        answers.append(x.row(3, 7)).append(x.row(4, 8)).append(x.row(10, 9)).append('\n');
        answers.append(x.warm(0, 500)).append(x.warm(1, 501)).append(x.warm(2, 0)).append('\n');
        answers.append(x.cell()).append(' ').append(x.pack(2, 1)).append('\n');
    }
}
