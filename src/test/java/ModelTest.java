/** All promises at once: long mixed runs of calls, each answer held against the naive Model. */
public final class ModelTest {
    private static final Check CHECK = new Check("Model");
    private static final int RUNS = 400;
    private static final int CALLS = 512;

    // A sequence of our own, so that every run of the test makes the same calls.
    private static long seed = 20261115;

    private static int below(int bound) {
        seed = seed * 6364136223846793005L + 1442695040888963407L;
        return (int) ((seed >>> 33) % bound);
    }

    private static int oneOf(int... values) {
        return values[below(values.length)];
    }

    private static int from(int low, int high) {
        return low + below(high - low + 1);
    }

    private CellTests x;
    private Model m;
    private int run;
    private int calls;
    private int day;
    private String toTell = "";

    public static void main(String[] args) {
        for (int run = 0; run < RUNS; run++) {
            new ModelTest().run(run);
        }
        CHECK.end();
    }

    private void run(int number) {
        run = number;
        x = new CellTests();
        m = new Model();
        int cells = from(0, 8);
        for (int i = 0; i < cells; i++) {
            is("cell()", x.cell(), m.cell());
        }
        while (calls < CALLS) {
            if (!toTell.isEmpty()) {
                unit(toTell.charAt(0));
                toTell = toTell.substring(1);
                if (toTell.isEmpty() && calls < CALLS) {
                    is("rules()", x.rules(), m.rules());
                }
            } else if (below(2) == 0) {
                change();
            } else {
                ask();
            }
        }
    }

    private void is(String call, long got, long due) {
        calls++;
        CHECK.is("run " + run + ", call " + calls + ": " + call, got, due);
    }

    private void is(String call, boolean got, boolean due) {
        is(call, got ? 1 : 0, due ? 1 : 0);
    }

    private static int someCell() {
        return below(20) == 0 ? oneOf(-1, 8, Integer.MIN_VALUE, Integer.MAX_VALUE) : below(8);
    }

    private void unit(int u) {
        is("unit(" + u + ")", x.unit(u), m.unit(u));
    }

    private void change() {
        switch (below(12)) {
            case 0 -> is("cell()", x.cell(), m.cell());
            case 1 -> warmth();
            case 2, 3, 4, 5 -> step();
            case 6, 7, 8 -> rest();
            case 9 -> {
                if (below(3) == 0) {
                    toTell = text();
                } else if (below(6) == 0) {
                    unit(oneOf(-1, 256, 0, 255, 32, 10));
                }
            }
            case 10 -> row();
            default -> pack();
        }
    }

    private void warmth() {
        if (below(4) == 0) {
            int low = oneOf(0, 0, 0, 1, 500, 1000000, -1);
            int high = oneOf(1000000, 1000000, 1000000, 500, 501, 1000001, 0);
            is("span(" + low + ", " + high + ")", x.span(low, high), m.span(low, high));
        } else {
            int cell = someCell();
            int warmth = oneOf(0, 1, 499, 500, 501, 502, 1000000, -1, 1000001);
            is("warm(" + cell + ", " + warmth + ")", x.warm(cell, warmth), m.warm(cell, warmth));
        }
    }

    private void step() {
        int cell = someCell();
        int seconds = oneOf(1, 3600, 3600, 3600, 3599, from(1, 100000), 100000, 0, 100001);
        int ampere = oneOf(from(-5, 20), from(-5, 20), from(-5, 20), 7, 7, from(-100000, 100000),
                -100000, 100000, -100001, 100001);
        int volt = oneOf(3700, 3700, from(3600, 3800), from(0, 10000), 5000, 5001, 4000, 10000,
                -1, 10001);
        is("step(" + cell + ", " + seconds + ", " + ampere + ", " + volt + ")",
                x.step(cell, seconds, ampere, volt), m.step(cell, seconds, ampere, volt));
    }

    private void rest() {
        int cell = someCell();
        day += below(3) == 0 ? from(0, 9) : 0;
        int when = oneOf(day, day, day, day + 1, from(0, 40), 100000, 100001, -1);
        int volt = oneOf(3700, 3700, from(3600, 3800), from(900, 4600), 999, 1000, 4500, 4501,
                -1, 10001, 0, 10000);
        is("rest(" + cell + ", " + when + ", " + volt + ")",
                x.rest(cell, when, volt), m.rest(cell, when, volt));
    }

    private static String number() {
        switch (below(10)) {
            case 0:
                return String.valueOf(from(-999999, 999999));
            case 1:
                return "-0";
            case 2:
                return below(4) == 0 ? "1234567" : "00" + from(0, 98);
            case 3:
                return String.valueOf(from(3500, 3900));
            default:
                return String.valueOf(from(-10, 98));
        }
    }

    private static String clause() {
        int a = oneOf(from(-20, 60), from(3600, 3800), from(-999999, 999999), 0);
        int b = oneOf(from(-20, 60), from(3600, 3800), from(-999999, 999999), 5000);
        String range = below(30) == 0 ? b + " " + a : Math.min(a, b) + " " + Math.max(a, b);
        return "qvr".charAt(below(3)) + " " + range;
    }

    private static String text() {
        StringBuilder text = new StringBuilder();
        int sentences = below(6) == 0 ? from(18, 22) : from(1, 3);
        for (int s = 0; s < sentences; s++) {
            text.append(below(8) == 0 ? "\n" : "").append("class ");
            text.append(below(10) == 0 ? number() : String.valueOf(from(0, 98))).append(' ');
            int clauses = sentences > 3 ? below(2) * below(2) : from(0, 3);
            for (int c = 0; c < clauses; c++) {
                text.append(clause()).append(below(8) == 0 ? "  " : " ");
            }
        }
        if (below(4) == 0) {
            String[] odd = {"q", "class", "x", "-", "\t", "99", "q q", "\u00e9", "class -1", "v 1"};
            text.insert(below(3) == 0 ? 0 : text.length(), odd[below(odd.length)] + " ");
        }
        if (below(6) == 0) {
            text.setLength(from(1, text.length()));
        }
        return text.toString();
    }

    private void row() {
        int cycle = oneOf(0, from(0, 5), from(0, 100), from(0, 10000), 9999, 10000, 10001, -1);
        int lost = oneOf(0, 1, 2, from(0, 20), from(0, 1000), 1000, 1001, -1);
        is("row(" + cycle + ", " + lost + ")", x.row(cycle, lost), m.row(cycle, lost));
    }

    private void pack() {
        int n = below(12) == 0 ? oneOf(0, 5, -1, Integer.MIN_VALUE) : oneOf(1, 2, 2, 2, 3, 3, 4);
        int packs = below(12) == 0 ? oneOf(0, 5, -1, Integer.MAX_VALUE) : oneOf(1, 1, 2, 2, 3, 4);
        is("pack(" + n + ", " + packs + ")", x.pack(n, packs), m.pack(n, packs));
        for (int cell = 0; cell < 8 && calls < CALLS; cell++) {
            is("packOf(" + cell + ")", x.packOf(cell), m.packOf(cell));
        }
    }

    private void ask() {
        int cell = someCell();
        int part = oneOf(0, 0, 1, 1, 2, -1);
        switch (below(9)) {
            case 0 -> is("charge", x.charge(cell), m.charge(cell));
            case 1 -> is("resistance", x.resistance(cell, part), m.resistance(cell, part));
            case 2 -> is("loss", x.loss(cell, part), m.loss(cell, part));
            case 3 -> is("cls", x.cls(cell), m.cls(cell));
            case 4 -> is("unsafe", x.unsafe(cell), m.unsafe(cell));
            case 5 -> {
                int act = from(-1, 5);
                is("may " + act, x.may(cell, act), m.may(cell, act));
            }
            case 6 -> is("packOf", x.packOf(cell), m.packOf(cell));
            case 7 -> {
                int cycles = oneOf(0, 1, 2, from(0, 20), from(0, 10000), 10000, 10001, -1);
                is("fade " + cycles, x.fade(cell, cycles), m.fade(cell, cycles));
            }
            default -> {
                int i = oneOf(-1, 0, 1, 2, from(0, 15), from(0, 15));
                is("record " + i, x.record(cell, i), m.record(cell, i));
            }
        }
    }
}
