import java.util.ArrayList;
import java.util.List;

/**
 * The document once more, as naively as can be: everything is kept, every answer is worked out
 * anew from all that is kept, packs by trying all ways there are.
 */
final class Model {
    private static final class Kept {
        int warmth;
        final List<int[]> steps = new ArrayList<>();
        final List<int[]> rests = new ArrayList<>();
    }

    private final List<Kept> cells = new ArrayList<>();
    private int low;
    private int high = 1000000;
    private String text = "";
    private List<List<String>> sentences = new ArrayList<>();
    private int[] found = {-1, -1, -1, -1, -1, -1, -1, -1};
    private final List<int[]> rows = new ArrayList<>();

    private Kept at(int cell) {
        return cell >= 0 && cell < cells.size() ? cells.get(cell) : null;
    }

    int cell() {
        if (cells.size() == 8) {
            return -1;
        }
        cells.add(new Kept());
        return cells.size() - 1;
    }

    boolean span(int l, int h) {
        boolean good = 0 <= l && l <= h && h <= 1000000;
        if (good) {
            low = l;
            high = h;
        }
        return good;
    }

    boolean warm(int cell, int warmth) {
        if (at(cell) == null || warmth < 0 || warmth > 1000000) {
            return false;
        }
        at(cell).warmth = warmth;
        return low <= warmth && warmth <= high;
    }

    boolean step(int cell, int seconds, int ampere, int volt) {
        Kept c = at(cell);
        boolean good = c != null && c.steps.size() < 30 && low <= c.warmth && c.warmth <= high
                && 1 <= seconds && seconds <= 100000 && -100000 <= ampere && ampere <= 100000
                && 0 <= volt && volt <= 10000;
        if (good) {
            c.steps.add(new int[] {seconds, ampere, volt});
        }
        return good;
    }

    boolean rest(int cell, int day, int volt) {
        Kept c = at(cell);
        boolean good = c != null && c.rests.size() < 10 && 0 <= day && day <= 100000
                && 0 <= volt && volt <= 10000
                && (c.rests.isEmpty() || day > c.rests.get(c.rests.size() - 1)[0]);
        if (good) {
            c.rests.add(new int[] {day, volt});
        }
        return good;
    }

    long charge(int cell) {
        if (at(cell) == null) {
            return Long.MIN_VALUE;
        }
        long sum = 0;
        for (int[] s : at(cell).steps) {
            sum += (long) s[0] * s[1];
        }
        long whole = sum / 3600;
        return whole * 3600 > sum ? whole - 1 : whole;
    }

    private static int[] lowest(int above, int below) {
        for (int d = Math.max(above, below); d > 1; d--) {
            if (above % d == 0 && below % d == 0) {
                return new int[] {above / d, below / d};
            }
        }
        return new int[] {above, below};
    }

    private int[] resistance(int cell) {
        Kept c = at(cell);
        for (int i = c == null ? 0 : c.steps.size() - 1; i > 0; i--) {
            int[] a = c.steps.get(i - 1);
            int[] b = c.steps.get(i);
            if (a[1] != b[1]) {
                return lowest(Math.abs(a[2] - b[2]), Math.abs(a[1] - b[1]));
            }
        }
        return null;
    }

    private static int part(int[] fraction, int part) {
        return fraction == null || part < 0 || part > 1 ? -1 : fraction[part];
    }

    int resistance(int cell, int part) {
        return part(resistance(cell), part);
    }

    int loss(int cell, int part) {
        Kept c = at(cell);
        if (c == null || c.rests.size() < 2) {
            return -1;
        }
        int[] first = c.rests.get(0);
        int[] last = c.rests.get(c.rests.size() - 1);
        return part(lowest(Math.max(0, first[1] - last[1]), last[0] - first[0]), part);
    }

    boolean unit(int u) {
        boolean good = u >= 0 && u <= 255 && text.length() < 600;
        if (good) {
            text += (char) u;
        }
        return good;
    }

    private static boolean isNumber(String word) {
        return word.matches("-?[0-9]{1,6}");
    }

    int rules() {
        List<String> words = new ArrayList<>();
        for (String word : text.split("[ \n]+")) {
            if (!word.isEmpty()) {
                words.add(word);
            }
        }
        text = "";
        List<List<String>> read = new ArrayList<>();
        int i = 0;
        while (i < words.size()) {
            if (!words.get(i).equals("class") || read.size() == 20) {
                return -1 - i;
            }
            i++;
            if (i == words.size() || !isNumber(words.get(i))
                    || Integer.parseInt(words.get(i)) < 0 || Integer.parseInt(words.get(i)) > 98) {
                return -1 - i;
            }
            List<String> sentence = new ArrayList<>();
            sentence.add(words.get(i++));
            while (i < words.size() && words.get(i).matches("[qvr]")) {
                sentence.add(words.get(i++));
                if (i == words.size() || !isNumber(words.get(i))) {
                    return -1 - i;
                }
                sentence.add(words.get(i++));
                if (i == words.size() || !isNumber(words.get(i))
                        || Integer.parseInt(words.get(i)) < Integer.parseInt(words.get(i - 1))) {
                    return -1 - i;
                }
                sentence.add(words.get(i++));
            }
            read.add(sentence);
        }
        sentences = read;
        return read.size();
    }

    private boolean open(int cell) {
        return at(cell).steps.isEmpty() || at(cell).rests.isEmpty();
    }

    private boolean holds(int cell, String letter, int from, int to) {
        long value;
        if (letter.equals("q")) {
            value = charge(cell);
        } else if (letter.equals("v")) {
            value = at(cell).rests.get(at(cell).rests.size() - 1)[1];
        } else {
            int[] fraction = resistance(cell);
            if (fraction == null) {
                return false;
            }
            value = fraction[0] / fraction[1];
        }
        return from <= value && value <= to;
    }

    int cls(int cell) {
        if (at(cell) == null || open(cell)) {
            return -1;
        }
        for (List<String> s : sentences) {
            boolean all = true;
            for (int i = 1; i + 2 < s.size(); i += 3) {
                all &= holds(cell, s.get(i), Integer.parseInt(s.get(i + 1)),
                        Integer.parseInt(s.get(i + 2)));
            }
            if (all) {
                return Integer.parseInt(s.get(0));
            }
        }
        return 99;
    }

    boolean unsafe(int cell) {
        Kept c = at(cell);
        if (c == null) {
            return false;
        }
        int rest = c.rests.isEmpty() ? 2000 : c.rests.get(c.rests.size() - 1)[1];
        int step = c.steps.isEmpty() ? 2000 : c.steps.get(c.steps.size() - 1)[2];
        return rest < 1000 || rest > 4500 || step > 5000;
    }

    boolean may(int cell, int act) {
        if (at(cell) == null || act < 0 || act > 4) {
            return false;
        }
        String acts = unsafe(cell) ? "34" : open(cell) ? "04" : "0123";
        return acts.contains(String.valueOf(act));
    }

    long pack(int n, int packs) {
        if (n < 1 || n > 4 || packs < 1 || packs > 4) {
            return -1;
        }
        long best = -1;
        int ways = 1;
        for (int i = 0; i < cells.size(); i++) {
            ways *= packs + 1;
        }
        // Ways are counted up with cell 0 as the leading digit: the first one comes first.
        for (int way = 0; way < ways; way++) {
            int[] packOf = new int[8];
            int rest = way;
            for (int cell = cells.size() - 1; cell >= 0; cell--) {
                packOf[cell] = rest % (packs + 1);
                rest /= packs + 1;
            }
            long sum = sumOf(packOf, n, packs);
            if (sum >= 0 && (best < 0 || sum < best)) {
                best = sum;
                for (int cell = 0; cell < 8; cell++) {
                    boolean in = cell < cells.size() && packOf[cell] < packs;
                    found[cell] = in ? packOf[cell] : -1;
                }
            }
        }
        return best;
    }

    /** The sum of spreads, or -1 when these are no packs as the document has them. */
    private long sumOf(int[] packOf, int n, int packs) {
        long sum = 0;
        int leastBefore = -1;
        for (int p = 0; p < packs; p++) {
            int size = 0;
            long least = Long.MAX_VALUE;
            long most = Long.MIN_VALUE;
            for (int cell = 0; cell < cells.size(); cell++) {
                if (packOf[cell] == p) {
                    if (open(cell) || unsafe(cell) || size == 0 && cell < leastBefore) {
                        return -1;
                    }
                    if (size == 0) {
                        leastBefore = cell;
                    }
                    size++;
                    least = Math.min(least, charge(cell));
                    most = Math.max(most, charge(cell));
                }
            }
            if (size != n) {
                return -1;
            }
            sum += most - least;
        }
        return sum;
    }

    int packOf(int cell) {
        return cell < 0 || cell > 7 ? -1 : found[cell];
    }

    boolean row(int cycle, int thousandths) {
        boolean good = rows.size() < 6 && cycle >= 0 && cycle <= 10000
                && thousandths >= 0 && thousandths <= 1000
                && (rows.isEmpty() || cycle > rows.get(rows.size() - 1)[0]);
        if (good) {
            rows.add(new int[] {cycle, thousandths});
        }
        return good;
    }

    long fade(int cell, int cycles) {
        if (at(cell) == null || cycles < 0 || cycles > 10000) {
            return Long.MIN_VALUE;
        }
        long q = charge(cell);
        for (int cycle = 0; cycle < cycles; cycle++) {
            int thousandths = 0;
            for (int[] row : rows) {
                if (row[0] <= cycle) {
                    thousandths = row[1];
                }
            }
            q = q - q * thousandths / 1000;
        }
        return q;
    }

    int record(int cell, int i) {
        if (at(cell) == null) {
            return -1;
        }
        String record = cell + " " + charge(cell) + " " + cls(cell);
        return i < 0 || i >= record.length() ? -1 : record.charAt(i);
    }
}
