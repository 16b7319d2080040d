/** What many tests need: objects with cells, texts told whole, records and packs whole. */
final class Cells {
    /** Numbers that no cell has when there are two. */
    static final int[] NONE_OF_TWO = {-1, 2, 7, 8, Integer.MIN_VALUE, Integer.MAX_VALUE};

    private Cells() {
    }

    /** A new object with so many new cells. */
    static CellTests fresh(int cells) {
        CellTests x = new CellTests();
        for (int i = 0; i < cells; i++) {
            x.cell();
        }
        return x;
    }

    /** A new object with a cell of each charge, none of them open or unsafe. */
    static CellTests of(int... charges) {
        CellTests x = new CellTests();
        for (int charge : charges) {
            charged(x, charge);
        }
        return x;
    }

    /** One more cell that is neither open nor unsafe, of the given charge. */
    static int charged(CellTests x, int charge) {
        int cell = x.cell();
        boolean made = x.step(cell, 3600, charge, 3700) && x.rest(cell, 1, 3700);
        if (!made) {
            throw new IllegalStateException("a cell could not be made");
        }
        return cell;
    }

    static void tell(CellTests x, String text) {
        for (int i = 0; i < text.length(); i++) {
            if (!x.unit(text.charAt(i))) {
                throw new IllegalStateException("byte " + i + " of the text was refused");
            }
        }
    }

    static int rules(CellTests x, String text) {
        tell(x, text);
        return x.rules();
    }

    static String record(CellTests x, int cell) {
        StringBuilder bytes = new StringBuilder();
        for (int i = 0; i < 20; i++) {
            int b = x.record(cell, i);
            if (b == CellTests.NONE) {
                break;
            }
            bytes.append((char) b);
        }
        return bytes.toString();
    }

    /** The pack of each of the 8 cells, '-' for those in none. */
    static String packs(CellTests x) {
        StringBuilder packs = new StringBuilder();
        for (int cell = 0; cell < 8; cell++) {
            int pack = x.packOf(cell);
            packs.append(pack == CellTests.NONE ? "-" : String.valueOf(pack));
        }
        return packs.toString();
    }
}
