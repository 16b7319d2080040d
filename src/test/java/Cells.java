/** What many tests need: cells with given charges and voltages, texts told whole, records whole. */
final class Cells {
    private Cells() {
    }

    /** One more cell that is neither open nor unsafe, of the given charge. */
    static int charged(CellTests x, int charge) {
        int cell = x.cell();
        boolean made = x.step(cell, 3600, charge, 3700) && x.rest(cell, 1, 3700);
        if (!made) {
            throw new IllegalStateException("a cell could not be made");
        }
        return cell;
    }

    static void tell(CellTests x, String text) {
        for (int i = 0; i < text.length(); i++) {
            if (!x.unit(text.charAt(i))) {
                throw new IllegalStateException("byte " + i + " of the text was refused");
            }
        }
    }

    static int rules(CellTests x, String text) {
        tell(x, text);
        return x.rules();
    }

    static String record(CellTests x, int cell) {
        StringBuilder bytes = new StringBuilder();
        for (int i = 0; i < 100 && x.record(cell, i) != CellTests.NONE; i++) {
            bytes.append((char) x.record(cell, i));
        }
        return bytes.toString();
    }

    static String packs(CellTests x) {
        StringBuilder packs = new StringBuilder();
        for (int cell = 0; cell < 8; cell++) {
            int pack = x.packOf(cell);
            packs.append(pack == CellTests.NONE ? "-" : String.valueOf(pack));
        }
        return packs.toString();
    }
}
