import java.math.BigInteger;
import java.util.ArrayList;
import java.util.Arrays;
import java.util.HashMap;
import java.util.List;
import java.util.Map;
import java.util.TreeSet;

/** The document once more, with the library's lists and numbers, to hold whole runs of calls against. */
final class PlainHouse {
    private static final BigInteger BASE = BigInteger.valueOf(1_000_000_000L);
    private static final int NONE = -1;

    private record Pair(int worth, int weight) {
    }

    private record Chance(int a, int b) {
    }

    private static final class Comer {
        final List<Pair> book;
        int bar = 0;

        Comer(List<Pair> book) {
            this.book = book;
        }
    }

    private record Box(List<Pair> book, int price) {
    }

    private final long[][] rows = new long[10][];
    private final int[] widths = new int[10];
    private final List<List<Pair>> books = new ArrayList<>();
    private final List<Comer> comers = new ArrayList<>();
    private final List<Chance> happenings = new ArrayList<>();
    private final List<Box> boxes = new ArrayList<>();
    private final int[] pays = new int[21];
    Fraction result = Fraction.ZERO;

    private static Fraction whole(long value) {
        return Fraction.of(value, 1);
    }

    private static Fraction over(Fraction top, long bottom) {
        return top.times(Fraction.of(1, bottom));
    }

    private static boolean isIn(int value, int low, int high) {
        return value >= low && value <= high;
    }

    // Rows and books

    int row(int slot, int width, int n) {
        if (!isIn(slot, 0, 9) || !isIn(width, 0, 3) || n > 40) {
            return -2;
        }
        if (n < 0) {
            return -3;
        }
        rows[slot] = new long[n];
        widths[slot] = width;
        return 0;
    }

    boolean tear(int slot) {
        boolean had = isIn(slot, 0, 9) && rows[slot] != null;
        if (had) {
            rows[slot] = null;
        }
        return had;
    }

    int write(int slot, int i, long v) {
        if (!isIn(slot, 0, 9)) {
            return -2;
        }
        if (rows[slot] == null) {
            return -5;
        }
        if (!isIn(i, 0, rows[slot].length - 1)) {
            return -6;
        }
        int bits = 8 << widths[slot];
        rows[slot][i] = v << (64 - bits) >> (64 - bits);
        return 0;
    }

    int book(int slot) {
        if (!isIn(slot, 0, 9)) {
            return -2;
        }
        if (books.size() == 16) {
            return -8;
        }
        if (rows[slot] == null) {
            return -5;
        }
        long[] row = rows[slot];
        List<Pair> pairs = new ArrayList<>();
        long numbers = 1;
        long weights = 0;
        for (int i = 0; i < numbers; i++) {
            if (i >= row.length) {
                return -6;
            }
            if (row[i] < (i == 0 ? 1 : 0) || row[i] > (i == 0 ? 8 : 1000)) {
                return -4;
            }
            if (i == 0) {
                numbers = 2 * row[0] + 1;
            } else if (i % 2 == 0) {
                pairs.add(new Pair((int) row[i - 1], (int) row[i]));
                weights += row[i];
            }
        }
        if (weights == 0) {
            return -4;
        }
        books.add(pairs);
        return books.size() - 1;
    }

    private static Fraction chance(List<Pair> book, Pair pair) {
        long weights = 0;
        for (Pair each : book) {
            weights += each.weight;
        }
        return Fraction.of(pair.weight, weights);
    }

    // Comers

    int comer(int book) {
        if (!isIn(book, 0, books.size() - 1)) {
            return -2;
        }
        if (comers.size() == 10) {
            return -8;
        }
        comers.add(new Comer(books.get(book)));
        return comers.size() - 1;
    }

    int dismiss() {
        int were = comers.size();
        comers.clear();
        return were;
    }

    boolean tell(int comer, int b) {
        if (!isIn(comer, 0, comers.size() - 1) || !isIn(b, 0, 1001)) {
            return false;
        }
        comers.get(comer).bar = b;
        return true;
    }

    private static Fraction behindBar(List<Pair> book, int bar, Fraction no) {
        Fraction mean = Fraction.ZERO;
        for (Pair pair : book) {
            mean = mean.plus(chance(book, pair).times(pair.worth >= bar ? whole(pair.worth) : no));
        }
        return mean;
    }

    void told() {
        result = Fraction.ZERO;
        for (int i = comers.size() - 1; i >= 0; i--) {
            result = behindBar(comers.get(i).book, comers.get(i).bar, result);
        }
    }

    /** By yeses left, what the comers from one on are worth. */
    private Fraction[] bestFrom(int comer) {
        Fraction[] means = new Fraction[11];
        Arrays.fill(means, Fraction.ZERO);
        for (int i = comers.size() - 1; i >= comer; i--) {
            List<Pair> book = comers.get(i).book;
            Fraction[] ahead = means.clone();
            for (int k = 1; k <= 10; k++) {
                ahead[k] = Fraction.ZERO;
                for (Pair pair : book) {
                    Fraction better = means[k].max(means[k - 1].plus(whole(pair.worth)));
                    ahead[k] = ahead[k].plus(chance(book, pair).times(better));
                }
            }
            means = ahead;
        }
        return means;
    }

    void best() {
        result = bestFrom(0)[1];
    }

    int bar(int comer) {
        if (!isIn(comer, 0, comers.size() - 1)) {
            return NONE;
        }
        Fraction no = bestFrom(comer + 1)[1];
        Fraction best = bestFrom(comer)[1];
        for (int bar : barsThatDiffer(List.of(comers.get(comer)))) {
            if (behindBar(comers.get(comer).book, bar, no).compareTo(best) == 0) {
                return bar;
            }
        }
        return -99;
    }

    /** The lowest of each kind: 0, and what is just above a worth. */
    private static TreeSet<Integer> barsThatDiffer(List<Comer> some) {
        TreeSet<Integer> bars = new TreeSet<>();
        bars.add(0);
        for (Comer comer : some) {
            for (Pair pair : comer.book) {
                bars.add(pair.worth + 1);
            }
        }
        return bars;
    }

    boolean few(int k) {
        if (!isIn(k, 0, 10)) {
            return false;
        }
        result = bestFrom(0)[k];
        return true;
    }

    void foresight() {
        result = foreseen();
    }

    private Fraction foreseen() {
        Fraction mean = Fraction.ZERO;
        int ahead = 0;
        for (int bar : barsThatDiffer(comers)) {
            // The chance to have at least any of ahead + 1 to bar - 1 is that to have bar - 1.
            Fraction less = Fraction.ONE;
            for (Comer comer : comers) {
                Fraction mine = Fraction.ZERO;
                for (Pair pair : comer.book) {
                    mine = pair.worth < bar - 1 ? mine.plus(chance(comer.book, pair)) : mine;
                }
                less = less.times(mine);
            }
            if (bar > 1) {
                mean = mean.plus(Fraction.ONE.minus(less).times(whole(bar - 1 - ahead)));
                ahead = bar - 1;
            }
        }
        return mean;
    }

    int half() {
        Fraction due = over(foreseen(), 2);
        for (int bar : barsThatDiffer(comers)) {
            Fraction mean = Fraction.ZERO;
            for (int i = comers.size() - 1; i >= 0; i--) {
                mean = behindBar(comers.get(i).book, bar, mean);
            }
            if (mean.compareTo(due) >= 0) {
                return bar;
            }
        }
        return -99;
    }

    // Ranks

    private static Fraction win(int n, int r) {
        if (r == 0) {
            return Fraction.of(1, n);
        }
        Fraction sum = Fraction.ZERO;
        for (int j = r + 1; j <= n; j++) {
            sum = sum.plus(Fraction.of(r, (long) n * (j - 1)));
        }
        return sum;
    }

    boolean letting(int n, int r) {
        if (!isIn(n, 1, 60) || !isIn(r, 0, n - 1)) {
            return false;
        }
        result = win(n, r);
        return true;
    }

    int pass(int n) {
        int best = isIn(n, 1, 60) ? 0 : NONE;
        for (int r = 1; best != NONE && r < n; r++) {
            best = win(n, r).compareTo(win(n, best)) > 0 ? r : best;
        }
        return best;
    }

    boolean pay(int rank, int v) {
        if (!isIn(rank, 1, 20) || !isIn(v, 0, 1000)) {
            return false;
        }
        pays[rank] = v;
        return true;
    }

    /** The j-th, now the s-th best, is in the end one back for each that comes better. */
    private Fraction yesMean(int n, int j, int s) {
        Fraction[] means = new Fraction[n + 2];
        for (int rank = 1; rank <= n; rank++) {
            means[rank] = whole(pays[rank]);
        }
        for (int come = n - 1; come >= j; come--) {
            Fraction[] ahead = new Fraction[n + 2];
            for (int rank = 1; rank <= come; rank++) {
                ahead[rank] = means[rank + 1].times(Fraction.of(rank, come + 1));
                ahead[rank] = ahead[rank].plus(means[rank].times(Fraction.of(come + 1 - rank, come + 1)));
            }
            means = ahead;
        }
        return means[s];
    }

    /** What is still to be had when j of n were let go. */
    private Fraction noMean(int n, int j) {
        Fraction mean = Fraction.ZERO;
        for (int come = n; come > j; come--) {
            Fraction sum = Fraction.ZERO;
            for (int s = 1; s <= come; s++) {
                Fraction yes = yesMean(n, come, s);
                sum = sum.plus(come == n ? yes : yes.max(mean));
            }
            mean = over(sum, come);
        }
        return mean;
    }

    boolean ranks(int n) {
        if (!isIn(n, 1, 20)) {
            return false;
        }
        result = noMean(n, 0);
        return true;
    }

    int yes(int n, int j, int s) {
        if (!isIn(n, 1, 20) || !isIn(j, 1, n) || !isIn(s, 1, j)) {
            return NONE;
        }
        return j == n || yesMean(n, j, s).compareTo(noMean(n, j)) >= 0 ? 1 : 0;
    }

    // Happenings

    int happen(int a, int b) {
        if (!isIn(b, 1, 100) || !isIn(a, 0, b)) {
            return -2;
        }
        if (happenings.size() == 20) {
            return -8;
        }
        happenings.add(new Chance(a, b));
        return happenings.size() - 1;
    }

    int forget() {
        int were = happenings.size();
        happenings.clear();
        return were;
    }

    int last() {
        if (happenings.isEmpty()) {
            return NONE;
        }
        int start = 0;
        Fraction most = Fraction.ZERO;
        for (int from = 0; from < happenings.size(); from++) {
            Fraction win = justOneFrom(from);
            if (win.compareTo(most) >= 0) {
                most = win;
                start = from;
            }
        }
        result = most;
        return start;
    }

    /** A yes to the first from there on wins if it is the only one. */
    private Fraction justOneFrom(int from) {
        Fraction none = Fraction.ONE;
        Fraction one = Fraction.ZERO;
        for (Chance chance : happenings.subList(from, happenings.size())) {
            Fraction yes = Fraction.of(chance.a, chance.b);
            Fraction no = Fraction.ONE.minus(yes);
            one = one.times(no).plus(none.times(yes));
            none = none.times(no);
        }
        return one;
    }

    // Boxes

    int box(int book, int price) {
        if (!isIn(book, 0, books.size() - 1) || !isIn(price, 0, 1000)) {
            return -2;
        }
        if (boxes.size() == 6) {
            return -8;
        }
        boxes.add(new Box(books.get(book), price));
        return boxes.size() - 1;
    }

    int empty() {
        int were = boxes.size();
        boxes.clear();
        return were;
    }

    boolean fair(int box) {
        if (!isIn(box, 0, boxes.size() - 1)) {
            return false;
        }
        List<Pair> book = boxes.get(box).book;
        Fraction price = whole(boxes.get(box).price);
        TreeSet<Integer> worths = new TreeSet<>();
        for (Pair pair : book) {
            if (pair.weight > 0) {
                worths.add(pair.worth);
            }
        }
        // From the greatest worth down to the first at which the mean above it reaches the price; between
        // it and the one ahead the mean goes on a straight line.
        int bar = worths.last();
        Fraction above = Fraction.ZERO;
        Fraction slope = Fraction.ONE;
        for (int worth : worths.descendingSet()) {
            if (above.compareTo(price) >= 0) {
                break;
            }
            slope = Fraction.ZERO;
            for (Pair pair : book) {
                slope = pair.worth >= worth ? slope.plus(chance(book, pair)) : slope;
            }
            Integer next = worths.lower(worth);
            bar = next == null ? worth - 5000 : next;
            above = meanAbove(book, bar);
        }
        Fraction gap = above.minus(price);
        result = whole(bar).plus(new Fraction(gap.top.multiply(slope.bottom), gap.bottom.multiply(slope.top)));
        return true;
    }

    private static Fraction meanAbove(List<Pair> book, int bar) {
        Fraction mean = Fraction.ZERO;
        for (Pair pair : book) {
            mean = mean.plus(chance(book, pair).times(whole(Math.max(0, pair.worth - bar))));
        }
        return mean;
    }

    void search() {
        result = searched(0, 0, new HashMap<>());
    }

    /** Any box next, or none, by which are opened and the greatest seen. */
    private Fraction searched(int opened, int seen, Map<Integer, Fraction> known) {
        Fraction best = known.get(opened * 1001 + seen);
        if (best != null) {
            return best;
        }
        best = whole(seen);
        for (int i = 0; i < boxes.size(); i++) {
            if ((opened >> i & 1) == 0) {
                List<Pair> book = boxes.get(i).book;
                Fraction mean = whole(-boxes.get(i).price);
                for (Pair pair : book) {
                    Fraction rest = searched(opened | 1 << i, Math.max(seen, pair.worth), known);
                    mean = mean.plus(chance(book, pair).times(rest));
                }
                best = best.max(mean);
            }
        }
        known.put(opened * 1001 + seen, best);
        return best;
    }

    // The result

    private static int partCount(BigInteger number) {
        return number.signum() == 0 ? 1 : (number.toString().length() + 8) / 9;
    }

    int look(int what) {
        switch (what) {
            case 0:
                return result.top.signum();
            case 1:
                return partCount(result.top.abs());
            case 2:
                return partCount(result.bottom);
            default:
                return NONE;
        }
    }

    int part(boolean bottom, int i) {
        BigInteger number = bottom ? result.bottom : result.top.abs();
        return isIn(i, 0, 20) ? number.divide(BASE.pow(i)).mod(BASE).intValue() : 0;
    }

    int compare(int a, int b) {
        return b < 1 ? -2 : result.compareTo(Fraction.of(a, b));
    }

    int count(int what) {
        int there = 0;
        for (long[] row : rows) {
            there += row == null ? 0 : 1;
        }
        int[] counts = {books.size(), comers.size(), happenings.size(), boxes.size(), there};
        return isIn(what, 0, 4) ? counts[what] : NONE;
    }
}
