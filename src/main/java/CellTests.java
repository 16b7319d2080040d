/**
 * Cells of batteries tested: charges by steps, resistances, what they lose at rest, classes by a
 * text of rules, packs of least spread, unsafe ones and what may be done with them, how they fade
 * by cycles, records.
 */
public final class CellTests {
    public static final int NONE = -1;
    public static final int NO_CLASS = 99;

    private static final int MOST_CELLS = 8;
    private static final int MOST_WARMTH = 1000000;
    private static final int MOST_CYCLES = 10000;
    private static final int MOST_IN_PACK = 4;
    private static final int MOST_PACKS = 4;

    private static final int TESTED = 0;
    private static final int EMPTIED = 3;
    private static final int STORED_APART = 4;

    private final Cell[] cells;
    private int count;
    private int spanLow;
    private int spanHigh;
    private final RuleText text;
    private RuleSet told;
    private RuleSet spare;
    private final Packer packer;
    private final FadeRows fading;
    private final StringBuilder line;

    public CellTests() {
        cells = new Cell[MOST_CELLS];
        count = 0;
        spanLow = 0;
        spanHigh = MOST_WARMTH;
        text = new RuleText();
        told = new RuleSet();
        spare = new RuleSet();
        packer = new Packer();
        fading = new FadeRows();
        line = new StringBuilder();
    }

    public int cell() {
        if (count < 0 || count >= cells.length) {
            return NONE;
        }
        cells[count] = new Cell();
        count++;
        return count - 1;
    }

    public boolean span(int low, int high) {
        if (low < 0 || high > MOST_WARMTH || low > high) {
            return false;
        }
        spanLow = low;
        spanHigh = high;
        return true;
    }

    public boolean warm(int cell, int warmth) {
        Cell c = cellOf(cell);
        if (c == null || !isWithin(warmth, 0, MOST_WARMTH)) {
            return false;
        }
        c.warmth = warmth;
        return isInSpan(c);
    }

    public boolean step(int cell, int seconds, int ampere, int volt) {
        Cell c = cellOf(cell);
        return c != null && isInSpan(c) && c.addStep(seconds, ampere, volt);
    }

    public boolean rest(int cell, int day, int volt) {
        Cell c = cellOf(cell);
        return c != null && c.addRest(day, volt);
    }

    public long charge(int cell) {
        Cell c = cellOf(cell);
        return c == null ? Long.MIN_VALUE : c.chargeNow();
    }

    public int resistance(int cell, int part) {
        Cell c = cellOf(cell);
        if (c == null || !c.hasResistance()) {
            return NONE;
        }
        return partOf(c.voltChange, c.ampereChange, part);
    }

    public int loss(int cell, int part) {
        Cell c = cellOf(cell);
        if (c == null || !c.hasLoss()) {
            return NONE;
        }
        return partOf(c.voltLost(), c.daysBetween(), part);
    }

    public boolean unit(int u) {
        return isWithin(u, 0, 255) && text.add((char) u);
    }

    public int rules() {
        int answer = text.readInto(spare);
        text.clear();
        if (answer >= 0) {
            RuleSet before = told;
            told = spare;
            spare = before;
        }
        return answer;
    }

    public int cls(int cell) {
        return classOf(cellOf(cell));
    }

    public boolean unsafe(int cell) {
        Cell c = cellOf(cell);
        return c != null && c.isUnsafe();
    }

    public boolean may(int cell, int act) {
        Cell c = cellOf(cell);
        if (c == null || !isWithin(act, TESTED, STORED_APART)) {
            return false;
        }
        if (c.isUnsafe()) {
            return act == EMPTIED || act == STORED_APART;
        }
        if (c.isOpen()) {
            return act == TESTED || act == STORED_APART;
        }
        return act != STORED_APART;
    }

    public long pack(int n, int packs) {
        if (!isWithin(n, 1, MOST_IN_PACK) || !isWithin(packs, 1, MOST_PACKS)) {
            return NONE;
        }
        packer.clear();
        for (int i = 0; i < count; i++) {
            Cell c = cellOf(i);
            if (c != null && !c.isOpen() && !c.isUnsafe()) {
                packer.add(i, c.chargeNow());
            }
        }
        return packer.search(n, packs);
    }

    public int packOf(int cell) {
        return packer.foundFor(cell);
    }

    public boolean row(int cycle, int thousandths) {
        return fading.add(cycle, thousandths);
    }

    public long fade(int cell, int cycles) {
        Cell c = cellOf(cell);
        if (c == null || !isWithin(cycles, 0, MOST_CYCLES)) {
            return Long.MIN_VALUE;
        }
        return fading.leftOf(c.chargeNow(), cycles);
    }

    public int record(int cell, int i) {
        Cell c = cellOf(cell);
        if (c == null) {
            return NONE;
        }
        line.setLength(0);
        line.append(cell);
        line.append(' ');
        // 30 steps of 100000 s at 100000 mA are some 83 million mAh, so every charge is an int.
        line.append((int) c.chargeNow());
        line.append(' ');
        line.append(classOf(c));
        if (i < 0 || i >= line.length()) {
            return NONE;
        }
        return line.charAt(i);
    }

    private Cell cellOf(int number) {
        if (number < 0 || number >= count || number >= cells.length) {
            return null;
        }
        return cells[number];
    }

    private boolean isInSpan(Cell c) {
        return isWithin(c.warmth, spanLow, spanHigh);
    }

    private int classOf(Cell c) {
        return c == null || c.isOpen() ? NONE : told.firstThatHolds(c);
    }

    private static boolean isWithin(long value, long low, long high) {
        return value >= low && value <= high;
    }

    /** Part 0 (above) or 1 (below) of a fraction in lowest terms; NONE for another part. */
    private static int partOf(int above, int below, int part) {
        int divisor = commonDivisor(above, below);
        if (divisor == 0 || !isWithin(part, 0, 1)) {
            return NONE;
        }
        return part == 0 ? above / divisor : below / divisor;
    }

    private static int commonDivisor(int a, int b) {
        int great = a;
        int small = b;
        // Two ints need less than 50 divisions; the bound is there to be seen.
        for (int i = 0; i < 64 && small != 0; i++) {
            int left = great % small;
            great = small;
            small = left;
        }
        return great;
    }

    /**
     * One cell. Neither steps nor rests are kept one by one: no later question asks for more than
     * their sums, their ends and the latest change.
     */
    private static final class Cell {
        private static final int MOST_STEPS = 30;
        private static final int MOST_RESTS = 10;
        private static final int MOST_SECONDS = 100000;
        private static final int MOST_AMPERE = 100000;
        private static final int MOST_VOLT = 10000;
        private static final int MOST_DAY = 100000;
        private static final int SECONDS_OF_HOUR = 3600;
        private static final int SAFE_REST_LOW = 1000;
        private static final int SAFE_REST_HIGH = 4500;
        private static final int SAFE_STEP_HIGH = 5000;

        private int warmth;
        private int steps;
        private long ampereSeconds;
        private int lastAmpere;
        private int lastStepVolt;
        private int voltChange;
        private int ampereChange;
        private int rests;
        private int firstDay;
        private int firstRestVolt;
        private int lastDay;
        private int lastRestVolt;

        boolean addStep(int seconds, int ampere, int volt) {
            if (steps >= MOST_STEPS
                    || !isWithin(seconds, 1, MOST_SECONDS)
                    || !isWithin(ampere, -MOST_AMPERE, MOST_AMPERE)
                    || !isWithin(volt, 0, MOST_VOLT)) {
                return false;
            }
            if (steps > 0 && ampere != lastAmpere) {
                voltChange = Math.abs(volt - lastStepVolt);
                ampereChange = Math.abs(ampere - lastAmpere);
            }
            ampereSeconds += (long) seconds * ampere;
            lastAmpere = ampere;
            lastStepVolt = volt;
            steps++;
            return true;
        }

        boolean addRest(int day, int volt) {
            if (rests >= MOST_RESTS
                    || !isWithin(day, 0, MOST_DAY)
                    || !isWithin(volt, 0, MOST_VOLT)
                    || rests > 0 && day <= lastDay) {
                return false;
            }
            if (rests == 0) {
                firstDay = day;
                firstRestVolt = volt;
            }
            lastDay = day;
            lastRestVolt = volt;
            rests++;
            return true;
        }

        long chargeNow() {
            return Math.floorDiv(ampereSeconds, (long) SECONDS_OF_HOUR);
        }

        boolean hasResistance() {
            return ampereChange > 0;
        }

        boolean hasLoss() {
            return rests > 1;
        }

        int voltLost() {
            return Math.max(0, firstRestVolt - lastRestVolt);
        }

        int daysBetween() {
            return lastDay - firstDay;
        }

        boolean isOpen() {
            return steps == 0 || rests == 0;
        }

        boolean isUnsafe() {
            boolean restUnsafe = rests > 0 && !isWithin(lastRestVolt, SAFE_REST_LOW, SAFE_REST_HIGH);
            boolean stepUnsafe = steps > 0 && lastStepVolt > SAFE_STEP_HIGH;
            return restUnsafe || stepUnsafe;
        }
    }

    /** Sentences in their order; the clauses of all of them lie in one row, each one's together. */
    private static final class RuleSet {
        private static final int MOST_SENTENCES = 20;
        // "class 0" and then " q 0 0" again and again: 600 bytes hold 98 clauses at most.
        private static final int MOST_CLAUSES = 100;

        private final int[] classes = new int[MOST_SENTENCES];
        private final int[] clauseEnds = new int[MOST_SENTENCES];
        private int sentences;
        private final char[] letters = new char[MOST_CLAUSES];
        private final int[] lows = new int[MOST_CLAUSES];
        private final int[] highs = new int[MOST_CLAUSES];
        private int clauses;

        void clear() {
            sentences = 0;
            clauses = 0;
        }

        boolean isFull() {
            return sentences >= MOST_SENTENCES;
        }

        boolean addSentence(int number) {
            if (sentences < 0 || sentences >= classes.length) {
                return false;
            }
            classes[sentences] = number;
            clauseEnds[sentences] = clauses;
            sentences++;
            return true;
        }

        boolean addClause(char letter, int low, int high) {
            if (sentences < 1 || sentences > clauseEnds.length
                    || clauses < 0 || clauses >= letters.length) {
                return false;
            }
            letters[clauses] = letter;
            lows[clauses] = low;
            highs[clauses] = high;
            clauses++;
            clauseEnds[sentences - 1] = clauses;
            return true;
        }

        int firstThatHolds(Cell c) {
            int from = 0;
            for (int i = 0; i < sentences && i < classes.length; i++) {
                int to = clauseEnds[i];
                if (allHold(c, from, to)) {
                    return classes[i];
                }
                from = to;
            }
            return NO_CLASS;
        }

        private boolean allHold(Cell c, int from, int to) {
            for (int i = from; i < to; i++) {
                if (!holds(c, i)) {
                    return false;
                }
            }
            return true;
        }

        private boolean holds(Cell c, int i) {
            if (i < 0 || i >= letters.length) {
                return false;
            }
            if (letters[i] == 'q') {
                return isWithin(c.chargeNow(), lows[i], highs[i]);
            }
            if (letters[i] == 'v') {
                return isWithin(c.lastRestVolt, lows[i], highs[i]);
            }
            return c.ampereChange > 0
                    && isWithin(c.voltChange / c.ampereChange, lows[i], highs[i]);
        }
    }

    /** The text of rules as it is told byte by byte, and how it is read word by word. */
    private static final class RuleText {
        private static final int MOST_BYTES = 600;
        private static final int MOST_DIGITS = 6;
        private static final int MOST_CLASS = 98;
        private static final int NO_NUMBER = Integer.MIN_VALUE;
        private static final String CLASS_WORD = "class";

        private static final int DUE_FIRST_CLASS = 0;
        private static final int DUE_CLASS_NUMBER = 1;
        private static final int DUE_CLAUSE_OR_CLASS = 2;
        private static final int DUE_LOW = 3;
        private static final int DUE_HIGH = 4;

        private final char[] bytes = new char[MOST_BYTES];
        private int length;
        private int due;
        private char letter;
        private int low;

        boolean add(char b) {
            if (length < 0 || length >= bytes.length) {
                return false;
            }
            bytes[length] = b;
            length++;
            return true;
        }

        void clear() {
            length = 0;
        }

        /** How many sentences there are, or -1 less the number of the word that cannot stand. */
        int readInto(RuleSet set) {
            set.clear();
            due = DUE_FIRST_CLASS;
            int words = 0;
            int start = 0;
            // One step beyond the text: its end ends a word as a blank does.
            for (int i = 0; i <= length; i++) {
                if (i < length && i < bytes.length && !isBlank(bytes[i])) {
                    continue;
                }
                if (start < i) {
                    if (!takeWord(set, start, i)) {
                        return -1 - words;
                    }
                    words++;
                }
                start = i + 1;
            }
            boolean whole = due == DUE_FIRST_CLASS || due == DUE_CLAUSE_OR_CLASS;
            return whole ? set.sentences : -1 - words;
        }

        private static boolean isBlank(char b) {
            return b == ' ' || b == '\n';
        }

        private boolean takeWord(RuleSet set, int start, int end) {
            switch (due) {
                case DUE_FIRST_CLASS:
                    return takeClassWord(set, start, end);
                case DUE_CLASS_NUMBER:
                    return takeClassNumber(set, numberIn(start, end));
                case DUE_CLAUSE_OR_CLASS:
                    return takeLetter(start, end) || takeClassWord(set, start, end);
                case DUE_LOW:
                    return takeLow(numberIn(start, end));
                default:
                    return takeHigh(set, numberIn(start, end));
            }
        }

        private boolean takeClassWord(RuleSet set, int start, int end) {
            if (set.isFull() || !isClassWord(start, end)) {
                return false;
            }
            due = DUE_CLASS_NUMBER;
            return true;
        }

        private boolean takeClassNumber(RuleSet set, int number) {
            // NO_NUMBER is far below 0, so the one test refuses it too.
            if (!isWithin(number, 0, MOST_CLASS) || !set.addSentence(number)) {
                return false;
            }
            due = DUE_CLAUSE_OR_CLASS;
            return true;
        }

        private boolean takeLetter(int start, int end) {
            if (end - start != 1 || start < 0 || start >= bytes.length) {
                return false;
            }
            char b = bytes[start];
            if (b != 'q' && b != 'v' && b != 'r') {
                return false;
            }
            letter = b;
            due = DUE_LOW;
            return true;
        }

        private boolean takeLow(int number) {
            if (number == NO_NUMBER) {
                return false;
            }
            low = number;
            due = DUE_HIGH;
            return true;
        }

        private boolean takeHigh(RuleSet set, int number) {
            // NO_NUMBER is below every number, so the one test refuses it too.
            if (number < low || !set.addClause(letter, low, number)) {
                return false;
            }
            due = DUE_CLAUSE_OR_CLASS;
            return true;
        }

        private boolean isClassWord(int start, int end) {
            if (end - start != CLASS_WORD.length() || start < 0 || end > bytes.length) {
                return false;
            }
            for (int i = 0; i < CLASS_WORD.length(); i++) {
                if (bytes[start + i] != CLASS_WORD.charAt(i)) {
                    return false;
                }
            }
            return true;
        }

        private int numberIn(int start, int end) {
            if (start < 0 || start >= end || end > bytes.length) {
                return NO_NUMBER;
            }
            boolean below = bytes[start] == '-';
            int from = below ? start + 1 : start;
            if (!isWithin(end - from, 1, MOST_DIGITS)) {
                return NO_NUMBER;
            }
            int value = 0;
            for (int i = from; i < end; i++) {
                if (!isWithin(bytes[i], '0', '9')) {
                    return NO_NUMBER;
                }
                value = value * 10 + (bytes[i] - '0');
            }
            return below ? -value : value;
        }
    }

    /** Looks for the best packs of the cells that were added, and keeps what it found last. */
    private static final class Packer {
        private final int[] found = new int[MOST_CELLS];
        private final int[] numbers = new int[MOST_CELLS];
        private final long[] charges = new long[MOST_CELLS];
        private final int[] choice = new int[MOST_CELLS];
        private int count;
        private int inPack;
        private int packs;
        private final int[] sizes = new int[MOST_PACKS];
        private final long[] least = new long[MOST_PACKS];
        private final long[] greatest = new long[MOST_PACKS];
        private long best;

        Packer() {
            for (int i = 0; i < found.length; i++) {
                found[i] = NONE;
            }
        }

        void clear() {
            count = 0;
        }

        void add(int number, long charge) {
            if (count >= 0 && count < numbers.length) {
                numbers[count] = number;
                charges[count] = charge;
                count++;
            }
        }

        int foundFor(int number) {
            return number >= 0 && number < found.length ? found[number] : NONE;
        }

        /** The least sum of spreads; NONE, with what was found before, when cells are too few. */
        long search(int cellsInPack, int packsWanted) {
            if (packsWanted > sizes.length || cellsInPack * packsWanted > count) {
                return NONE;
            }
            inPack = cellsInPack;
            packs = packsWanted;
            best = Long.MAX_VALUE;
            for (int i = 0; i < sizes.length; i++) {
                sizes[i] = 0;
            }
            place(0, 0, cellsInPack * packsWanted, 0);
            return best;
        }

        /**
         * Places cell at and all behind it. Choices are tried from the least on, so of equal sums
         * the first one met is the one due, and a sum that is not less than the best can be left.
         */
        private void place(int at, int opened, int missing, long sum) {
            if (at < 0 || missing > count - at || sum >= best) {
                return;
            }
            if (at >= count || at >= choice.length) {
                keep(sum);
                return;
            }
            for (int k = 0; k <= opened && k < packs; k++) {
                placeIn(k, at, opened, missing, sum);
            }
            choice[at] = NONE;
            place(at + 1, opened, missing, sum);
        }

        private void placeIn(int k, int at, int opened, int missing, long sum) {
            if (k < 0 || k >= sizes.length || at < 0 || at >= choice.length || sizes[k] >= inPack) {
                return;
            }
            long leastBefore = least[k];
            long greatestBefore = greatest[k];
            boolean first = sizes[k] == 0;
            long spreadBefore = first ? 0 : greatestBefore - leastBefore;
            least[k] = first ? charges[at] : Math.min(leastBefore, charges[at]);
            greatest[k] = first ? charges[at] : Math.max(greatestBefore, charges[at]);
            sizes[k]++;
            choice[at] = k;
            long grown = greatest[k] - least[k] - spreadBefore;
            place(at + 1, first ? opened + 1 : opened, missing - 1, sum + grown);
            sizes[k]--;
            least[k] = leastBefore;
            greatest[k] = greatestBefore;
        }

        private void keep(long sum) {
            best = sum;
            for (int i = 0; i < found.length; i++) {
                found[i] = NONE;
            }
            for (int i = 0; i < count && i < numbers.length; i++) {
                int number = numbers[i];
                if (number >= 0 && number < found.length) {
                    found[number] = choice[i];
                }
            }
        }
    }

    /** The rows of fading, by rising cycles. */
    private static final class FadeRows {
        private static final int MOST_ROWS = 6;
        private static final int WHOLE = 1000;

        private final int[] from = new int[MOST_ROWS];
        private final int[] thousandths = new int[MOST_ROWS];
        private int count;

        boolean add(int cycle, int lost) {
            if (count < 0 || count >= from.length
                    || !isWithin(cycle, 0, MOST_CYCLES)
                    || !isWithin(lost, 0, WHOLE)
                    || count > 0 && cycle <= from[count - 1]) {
                return false;
            }
            from[count] = cycle;
            thousandths[count] = lost;
            count++;
            return true;
        }

        long leftOf(long charge, int cycles) {
            long left = charge;
            for (int i = 0; i < count && i < from.length; i++) {
                int next = i + 1 < count && i + 1 < from.length ? from[i + 1] : cycles;
                left = fadeBy(left, thousandths[i], Math.min(next, cycles) - from[i]);
            }
            return left;
        }

        private static long fadeBy(long charge, int lost, int times) {
            long left = charge;
            for (int i = 0; i < times; i++) {
                long gone = left * lost / WHOLE;
                if (gone == 0) {
                    // What loses nothing in one cycle loses nothing in the next one of this row.
                    return left;
                }
                left -= gone;
            }
            return left;
        }
    }
}
