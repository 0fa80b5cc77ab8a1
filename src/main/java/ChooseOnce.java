import java.util.Arrays;

/** A house where one must say yes or no as things come; README.md tells how to use it. */
public final class ChooseOnce {
    public static final int NONE = -1;

    private static final int NO_SUCH = -2;
    private static final int BELOW_ZERO = -3;
    private static final int NOT_AS_TOLD = -4;
    private static final int NOTHING_THERE = -5;
    private static final int ROW_ENDS = -6;
    private static final int FULL = -8;

    private static final int SLOTS = 10;
    private static final int WIDEST = 3;
    private static final int LONGEST_ROW = 40;
    private static final int MOST_BOOKS = 16;
    private static final int MOST_PAIRS = 8;
    private static final int MOST_COMERS = 10;
    private static final int MOST_YESES = 10;
    private static final int MOST_PASSING = 60;
    private static final int MOST_RANKS = 20;
    private static final int MOST_HAPPENINGS = 20;
    private static final int MOST_BOXES = 6;
    /** Of worths, weights, pays and prices alike. */
    private static final int HIGHEST = 1000;
    private static final int HIGHEST_BAR = HIGHEST + 1;
    private static final int FINEST_CHANCE = 100;

    private final Row[] rows = new Row[SLOTS];
    private final Book[] books = new Book[MOST_BOOKS];
    private int bookCount = 0;
    private final Result result = new Result();
    private final Comers comers = new Comers();
    private final Passing passing = new Passing();
    private final Ranking ranking = new Ranking();
    private final Happenings happenings = new Happenings();
    private final Boxes boxes = new Boxes();

    public ChooseOnce() {
        for (int i = 0; i < rows.length; i++) {
            rows[i] = new Row();
        }
        for (int i = 0; i < books.length; i++) {
            books[i] = new Book();
        }
    }

    public int row(int slot, int width, int n) {
        if (!isSlot(slot) || !isWithin(width, 0, WIDEST) || n > LONGEST_ROW) {
            return NO_SUCH;
        }
        if (n < 0) {
            return BELOW_ZERO;
        }
        rows[slot].lay(width, n);
        return 0;
    }

    public boolean tear(int slot) {
        if (!isSlot(slot) || !rows[slot].isThere()) {
            return false;
        }
        rows[slot].remove();
        return true;
    }

    public int write(int slot, int i, long v) {
        if (!isSlot(slot)) {
            return NO_SUCH;
        }
        if (!rows[slot].isThere()) {
            return NOTHING_THERE;
        }
        return rows[slot].put(i, v) ? 0 : ROW_ENDS;
    }

    public int book(int slot) {
        if (!isSlot(slot)) {
            return NO_SUCH;
        }
        if (bookCount >= MOST_BOOKS) {
            return FULL;
        }
        if (!rows[slot].isThere()) {
            return NOTHING_THERE;
        }
        int refusal = books[bookCount].readFrom(rows[slot]);
        if (refusal != 0) {
            return refusal;
        }
        bookCount++;
        return bookCount - 1;
    }

    public int comer(int book) {
        if (!isBook(book)) {
            return NO_SUCH;
        }
        return comers.join(books[book]);
    }

    public int dismiss() {
        return comers.clear();
    }

    public boolean tell(int comer, int b) {
        if (!isWithin(comer, 0, comers.size() - 1) || !isWithin(b, 0, HIGHEST_BAR)) {
            return false;
        }
        comers.setBar(comer, b);
        return true;
    }

    public void told() {
        comers.followTold(result);
    }

    public void best() {
        comers.chooseUpTo(1, result);
    }

    public int bar(int comer) {
        if (!isWithin(comer, 0, comers.size() - 1)) {
            return NONE;
        }
        return comers.bestBar(comer);
    }

    public boolean few(int k) {
        if (!isWithin(k, 0, MOST_YESES)) {
            return false;
        }
        comers.chooseUpTo(k, result);
        return true;
    }

    public void foresight() {
        comers.foreseeInto(result);
    }

    public int half() {
        return comers.lowestBarForHalf();
    }

    public boolean letting(int n, int r) {
        if (!isWithin(n, 1, MOST_PASSING) || !isWithin(r, 0, n - 1)) {
            return false;
        }
        passing.winLetting(n, r, result);
        return true;
    }

    public int pass(int n) {
        if (!isWithin(n, 1, MOST_PASSING)) {
            return NONE;
        }
        return passing.bestToLet(n);
    }

    public boolean pay(int rank, int v) {
        if (!isWithin(rank, 1, MOST_RANKS) || !isWithin(v, 0, HIGHEST)) {
            return false;
        }
        ranking.setPay(rank, v);
        return true;
    }

    public boolean ranks(int n) {
        if (!isWithin(n, 1, MOST_RANKS)) {
            return false;
        }
        ranking.meanInto(n, result);
        return true;
    }

    public int yes(int n, int j, int s) {
        if (!isWithin(n, 1, MOST_RANKS) || !isWithin(j, 1, n) || !isWithin(s, 1, j)) {
            return NONE;
        }
        return ranking.isTaken(n, j, s) ? 1 : 0;
    }

    public int happen(int a, int b) {
        if (!isWithin(b, 1, FINEST_CHANCE) || !isWithin(a, 0, b)) {
            return NO_SUCH;
        }
        return happenings.join(a, b);
    }

    public int forget() {
        return happenings.clear();
    }

    public int last() {
        return happenings.bestStart(result);
    }

    public int box(int book, int price) {
        if (!isBook(book) || !isWithin(price, 0, HIGHEST)) {
            return NO_SUCH;
        }
        return boxes.join(books[book], price);
    }

    public int empty() {
        return boxes.clear();
    }

    public boolean fair(int box) {
        if (!isWithin(box, 0, boxes.size() - 1)) {
            return false;
        }
        boxes.fairBarInto(box, result);
        return true;
    }

    public void search() {
        boxes.searchInto(result);
    }

    public int look(int what) {
        switch (what) {
            case 0:
                return result.sign();
            case 1:
                return result.digits(false).partCount();
            case 2:
                return result.digits(true).partCount();
            default:
                return NONE;
        }
    }

    public int part(boolean bottom, int i) {
        return result.digits(bottom).partAt(i);
    }

    public int compare(int a, int b) {
        if (b < 1) {
            return NO_SUCH;
        }
        return result.against(a, b);
    }

    public int count(int what) {
        switch (what) {
            case 0:
                return bookCount;
            case 1:
                return comers.size();
            case 2:
                return happenings.size();
            case 3:
                return boxes.size();
            case 4:
                return rowsThere();
            default:
                return NONE;
        }
    }

    private int rowsThere() {
        int there = 0;
        for (int i = 0; i < rows.length; i++) {
            if (rows[i].isThere()) {
                there++;
            }
        }
        return there;
    }

    private boolean isBook(int book) {
        return isWithin(book, 0, bookCount - 1);
    }

    private static boolean isSlot(int slot) {
        return isWithin(slot, 0, SLOTS - 1);
    }

    private static boolean isWithin(long value, long low, long high) {
        return low <= value && value <= high;
    }

    /** A row of a slot; its numbers are made once, so that laying rows takes no more memory. */
    private static final class Row {
        private final long[] numbers = new long[LONGEST_ROW];
        private int width = 0;
        private int length = NONE;

        boolean isThere() {
            return length != NONE;
        }

        void lay(int newWidth, int n) {
            Arrays.fill(numbers, 0L);
            width = newWidth;
            length = Math.min(n, LONGEST_ROW);
        }

        void remove() {
            length = NONE;
        }

        boolean put(int i, long v) {
            if (!isWithin(i, 0, length - 1)) {
                return false;
            }
            numbers[i] = cut(v);
            return true;
        }

        private long cut(long v) {
            switch (width) {
                case 0:
                    return (byte) v;
                case 1:
                    return (short) v;
                case 2:
                    return (int) v;
                default:
                    return v;
            }
        }

        /** No number that is asked for may be below 0, so that a refusal can stand in its place. */
        int read(int i, int low, int high) {
            if (!isWithin(i, 0, length - 1)) {
                return ROW_ENDS;
            }
            return isWithin(numbers[i], low, high) ? (int) numbers[i] : NOT_AS_TOLD;
        }
    }

    /** Its worths ascend, each once and with a weight above 0: what has no chance never matters. */
    private static final class Book {
        private final int[] worths = new int[MOST_PAIRS];
        private final int[] weights = new int[MOST_PAIRS];
        private int size = 0;
        private int total = 0;

        int readFrom(Row row) {
            size = 0;
            total = 0;
            int pairs = row.read(0, 1, MOST_PAIRS);
            if (pairs < 0) {
                return pairs;
            }
            for (int i = 0; i < pairs; i++) {
                int worth = row.read(2 * i + 1, 0, HIGHEST);
                if (worth < 0) {
                    return worth;
                }
                int weight = row.read(2 * i + 2, 0, HIGHEST);
                if (weight < 0) {
                    return weight;
                }
                addPair(worth, weight);
            }
            return total == 0 ? NOT_AS_TOLD : 0;
        }

        private void addPair(int worth, int weight) {
            if (weight == 0 || size >= MOST_PAIRS) {
                return;
            }
            total += weight;
            int at = 0;
            while (at < size && worths[at] < worth) {
                at++;
            }
            if (at < size && worths[at] == worth) {
                weights[at] += weight;
                return;
            }
            for (int i = size; i > at; i--) {
                worths[i] = worths[i - 1];
                weights[i] = weights[i - 1];
            }
            worths[at] = worth;
            weights[at] = weight;
            size++;
        }

        int total() {
            return total;
        }

        /** The weight of all worths below the bar. */
        int below(int bar) {
            int sum = 0;
            for (int i = 0; i < size && worths[i] < bar; i++) {
                sum += weights[i];
            }
            return sum;
        }

        /** The worths at or above the bar, each as often as its weight. */
        int gathered(int bar) {
            int sum = 0;
            for (int i = size - 1; i >= 0 && worths[i] >= bar; i--) {
                sum += worths[i] * weights[i];
            }
            return sum;
        }

        int leastFrom(int low) {
            for (int i = 0; i < size; i++) {
                if (worths[i] >= low) {
                    return worths[i];
                }
            }
            return NONE;
        }
    }

    /** Draws from some books, all of which are seen. */
    private static final class Crowd {
        /** No more different worths than this are ever met. */
        private static final int MOST_WORTHS = MOST_COMERS * MOST_PAIRS;

        private final Book blank = new Book();
        private final Book[] books = new Book[MOST_COMERS];
        private int size = 0;

        Crowd() {
            for (int i = 0; i < books.length; i++) {
                books[i] = blank;
            }
        }

        int size() {
            return size;
        }

        void clear() {
            size = 0;
        }

        void join(Book book) {
            if (size < MOST_COMERS) {
                books[size] = book;
                size++;
            }
        }

        Book at(int i) {
            return isWithin(i, 0, size - 1) ? books[i] : blank;
        }

        int leastFrom(int low) {
            int least = NONE;
            for (int i = 0; i < size; i++) {
                int worth = at(i).leastFrom(low);
                if (worth != NONE && (least == NONE || worth < least)) {
                    least = worth;
                }
            }
            return least;
        }

        /** In how many ways, of all weights multiplied, no draw is above the worth. */
        void waysUpTo(int worth, Natural ways) {
            ways.put(1);
            for (int i = 0; i < size; i++) {
                ways.times(at(i).below(worth + 1));
            }
        }

        void divide(Natural sum, Result result) {
            result.put(sum);
            for (int i = 0; i < size; i++) {
                result.over(at(i).total());
            }
        }
    }

    /** All means here are tops of fractions whose bottom is the product of the totals of the books seen. */
    private static final class Comers {
        private final Crowd crowd = new Crowd();
        private final int[] toldBars = new int[MOST_COMERS];
        private final int[] bestBars = new int[MOST_COMERS];
        private final int[] evenBars = new int[MOST_COMERS];
        /** By how many yeses are left. */
        private final Natural[] means = new Natural[MOST_YESES + 1];
        private final Natural mean = new Natural();
        private final Natural all = new Natural();
        private final Natural trial = new Natural();
        private final Natural before = new Natural();
        private final Natural foreseen = new Natural();

        Comers() {
            for (int i = 0; i < means.length; i++) {
                means[i] = new Natural();
            }
        }

        int size() {
            return crowd.size();
        }

        int join(Book book) {
            int number = crowd.size();
            if (number >= MOST_COMERS) {
                return FULL;
            }
            crowd.join(book);
            toldBars[number] = 0;
            return number;
        }

        int clear() {
            int were = crowd.size();
            crowd.clear();
            return were;
        }

        void setBar(int comer, int b) {
            if (isWithin(comer, 0, MOST_COMERS - 1)) {
                toldBars[comer] = b;
            }
        }

        void followTold(Result result) {
            follow(toldBars);
            crowd.divide(mean, result);
        }

        /** From the last comer to the first, as what a no is worth is known only from behind. */
        private void follow(int[] bars) {
            mean.put(0);
            all.put(1);
            for (int i = Math.min(crowd.size(), bars.length) - 1; i >= 0; i--) {
                Book book = crowd.at(i);
                mean.times(book.below(bars[i]));
                mean.addTimes(all, book.gathered(bars[i]));
                all.times(book.total());
            }
        }

        void chooseUpTo(int k, Result result) {
            choose(k);
            crowd.divide(means[isWithin(k, 0, MOST_YESES) ? k : 0], result);
        }

        int bestBar(int comer) {
            choose(1);
            return isWithin(comer, 0, MOST_COMERS - 1) ? bestBars[comer] : NONE;
        }

        private void choose(int k) {
            for (int i = 0; i < means.length; i++) {
                means[i].put(0);
            }
            all.put(1);
            for (int i = Math.min(crowd.size(), MOST_COMERS) - 1; i >= 0; i--) {
                Book book = crowd.at(i);
                // Downwards, as each mean is made of the one with a yes less of the comer behind;
                // the bar of the best rule is that with one yes left, which comes last.
                for (int yeses = Math.min(k, MOST_YESES); yeses >= 1; yeses--) {
                    bestBars[i] = chooseAt(book, means[yeses - 1], means[yeses]);
                }
                all.times(book.total());
            }
        }

        private int chooseAt(Book book, Natural afterYes, Natural afterNo) {
            int bar = lowestBar(book, afterYes, afterNo);
            int refused = book.below(bar);
            afterNo.times(refused);
            afterNo.addTimes(afterYes, book.total() - refused);
            afterNo.addTimes(all, book.gathered(bar));
            return bar;
        }

        /** Just above the greatest worth for which a yes would lose: bars between worths do the same. */
        private int lowestBar(Book book, Natural afterYes, Natural afterNo) {
            int bar = 0;
            for (int i = 0; i < MOST_PAIRS; i++) {
                int worth = book.leastFrom(bar);
                if (worth == NONE) {
                    return bar;
                }
                trial.copy(afterYes);
                trial.addTimes(all, worth);
                if (trial.against(afterNo) >= 0) {
                    return bar;
                }
                bar = worth + 1;
            }
            return bar;
        }

        void foreseeInto(Result result) {
            foresee();
            crowd.divide(foreseen, result);
        }

        private void foresee() {
            foreseen.put(0);
            before.put(0);
            int worth = crowd.leastFrom(0);
            for (int i = 0; i < Crowd.MOST_WORTHS && worth != NONE; i++) {
                crowd.waysUpTo(worth, trial);
                foreseen.addTimes(trial, worth);
                // The ways up to the worth ahead are no ways to have this one as the greatest.
                foreseen.takeTimes(before, worth);
                before.copy(trial);
                worth = crowd.leastFrom(worth + 1);
            }
        }

        int lowestBarForHalf() {
            foresee();
            int bar = 0;
            for (int i = 0; i <= Crowd.MOST_WORTHS; i++) {
                Arrays.fill(evenBars, bar);
                follow(evenBars);
                mean.times(2);
                int worth = crowd.leastFrom(bar);
                if (mean.against(foreseen) >= 0 || worth == NONE) {
                    return bar;
                }
                // All bars up to this worth do what the last one did.
                bar = worth + 1;
            }
            return bar;
        }
    }

    /** Letting r of n pass wins in r / n times 1/r + .. + 1/(n - 1); letting none in 1 / n. */
    private static final class Passing {
        /** Their product is the least number that all of 1 to 59 divide. */
        private static final int[] PRIME_POWERS =
            {32, 27, 25, 49, 11, 13, 17, 19, 23, 29, 31, 37, 41, 43, 47, 53, 59};

        private final Natural whole = new Natural();
        private final Natural share = new Natural();
        private final Natural shares = new Natural();
        private final Natural wins = new Natural();
        private final Natural most = new Natural();

        Passing() {
            whole.put(1);
            for (int i = 0; i < PRIME_POWERS.length; i++) {
                whole.times(PRIME_POWERS[i]);
            }
        }

        void winLetting(int n, int r, Result result) {
            shares.put(0);
            for (int i = n - 1; i >= r; i--) {
                letOneLess(i);
            }
            result.put(wins);
            for (int i = 0; i < PRIME_POWERS.length; i++) {
                result.over(PRIME_POWERS[i]);
            }
            result.over(n);
        }

        int bestToLet(int n) {
            shares.put(0);
            most.put(0);
            int bestLet = 0;
            for (int r = n - 1; r >= 0; r--) {
                letOneLess(r);
                if (wins.against(most) >= 0) {
                    most.copy(wins);
                    bestLet = r;
                }
            }
            return bestLet;
        }

        /** Called for r from n - 1 down; the wins are those of r, n times and in parts of the whole. */
        private void letOneLess(int r) {
            if (r < 1) {
                wins.copy(whole);
                return;
            }
            share.copy(whole);
            share.divide(r);
            shares.addTimes(share, 1);
            wins.copy(shares);
            wins.times(r);
        }
    }

    /**
     * When j of n have come, what is still to come can go n! / j! ways, alike likely:
     * all numbers here are sums of pays over these ways.
     */
    private static final class Ranking {
        private final int[] pays = new int[MOST_RANKS + 1];
        /** What a yes is worth, by the rank among those so far. */
        private final Natural[] yeses = new Natural[MOST_RANKS + 1];
        private final Natural no = new Natural();
        private final Natural sum = new Natural();

        Ranking() {
            for (int i = 0; i < yeses.length; i++) {
                yeses[i] = new Natural();
            }
        }

        void setPay(int rank, int v) {
            if (isWithin(rank, 1, MOST_RANKS)) {
                pays[rank] = v;
            }
        }

        void meanInto(int n, Result result) {
            comeBackTo(n, 1);
            goAhead(1);
            result.put(no);
            for (int i = 2; i <= n; i++) {
                result.over(i);
            }
        }

        boolean isTaken(int n, int j, int s) {
            if (j >= n || !isWithin(s, 1, MOST_RANKS)) {
                return true;
            }
            comeBackTo(n, j);
            return yeses[s].against(no) >= 0;
        }

        /** From the last, who is taken in any case, back to the j-th, ahead of the word on it. */
        private void comeBackTo(int n, int j) {
            no.put(0);
            for (int s = 1; s <= Math.min(n, MOST_RANKS); s++) {
                yeses[s].put(pays[s]);
            }
            for (int i = Math.min(n, MOST_RANKS) - 1; i >= j; i--) {
                goAhead(i + 1);
                unseeNext(i);
            }
        }

        /** What no was worth to the one ahead of the j-th: the best words on all ranks of the j-th. */
        private void goAhead(int j) {
            sum.put(0);
            for (int s = 1; s <= Math.min(j, MOST_RANKS); s++) {
                sum.addTimes(yeses[s].against(no) >= 0 ? yeses[s] : no, 1);
            }
            no.copy(sum);
        }

        /** The next comes better than the s-th of j in s of j + 1 ways, and puts it one rank back. */
        private void unseeNext(int j) {
            for (int s = 1; s <= Math.min(j, MOST_RANKS - 1); s++) {
                yeses[s].times(j + 1 - s);
                yeses[s].addTimes(yeses[s + 1], s);
            }
        }
    }

    private static final class Happenings {
        private final int[] tops = new int[MOST_HAPPENINGS];
        private final int[] bottoms = new int[MOST_HAPPENINGS];
        private int size = 0;
        private final Natural win = new Natural();
        private final Natural quiet = new Natural();
        private final Natural most = new Natural();

        int size() {
            return size;
        }

        int join(int a, int b) {
            if (size >= MOST_HAPPENINGS) {
                return FULL;
            }
            tops[size] = a;
            bottoms[size] = b;
            size++;
            return size - 1;
        }

        int clear() {
            int were = size;
            size = 0;
            return were;
        }

        int bestStart(Result result) {
            if (size == 0) {
                return NONE;
            }
            int start = size - 1;
            win.put(0);
            quiet.put(1);
            most.put(0);
            for (int i = size - 1; i >= 0; i--) {
                startAt(i);
                // Only more than before moves the start ahead: of several it is the last.
                if (win.against(most) > 0) {
                    most.copy(win);
                    start = i;
                }
            }
            result.put(most);
            for (int i = 0; i < size; i++) {
                result.over(bottoms[i]);
            }
            return start;
        }

        /** All three are tops over the product of the bottoms from i on. */
        private void startAt(int i) {
            int misses = bottoms[i] - tops[i];
            win.times(misses);
            win.addTimes(quiet, tops[i]);
            quiet.times(misses);
            most.times(bottoms[i]);
        }
    }

    /**
     * The best way opens boxes by their fair bars, the greatest first, while the greatest seen is
     * below the next one's: then a box brings, beyond what is there, more than it costs.
     */
    private static final class Boxes {
        private final Crowd all = new Crowd();
        private final Crowd opened = new Crowd();
        private final int[] prices = new int[MOST_BOXES];
        private final int[] fairTops = new int[MOST_BOXES];
        private final int[] fairBottoms = new int[MOST_BOXES];
        private final int[] order = new int[MOST_BOXES];
        private final Natural sum = new Natural();
        private final Natural ways = new Natural();

        int size() {
            return all.size();
        }

        int join(Book book, int price) {
            int number = all.size();
            if (number >= MOST_BOXES) {
                return FULL;
            }
            all.join(book);
            prices[number] = price;
            findFairBar(number);
            putInOrder(number);
            return number;
        }

        int clear() {
            int were = all.size();
            all.clear();
            return were;
        }

        /**
         * For the worths from each one up there is a bar at which what they are above it is the price. To
         * count just those above a bar counts the most, so the fair bar is the greatest of these bars.
         */
        private void findFairBar(int box) {
            Book book = all.at(box);
            int cost = prices[box] * book.total();
            fairBottoms[box] = 0;
            int worth = book.leastFrom(0);
            for (int i = 0; i < MOST_PAIRS && worth != NONE; i++) {
                int top = book.gathered(worth) - cost;
                int bottom = book.total() - book.below(worth);
                if (fairBottoms[box] == 0 || isAbove(top, bottom, box)) {
                    fairTops[box] = top;
                    fairBottoms[box] = bottom;
                }
                worth = book.leastFrom(worth + 1);
            }
        }

        private boolean isAbove(long top, long bottom, int box) {
            return top * fairBottoms[box] > fairTops[box] * bottom;
        }

        private void putInOrder(int box) {
            int at = box;
            while (at > 0 && isAbove(fairTops[box], fairBottoms[box], order[at - 1])) {
                order[at] = order[at - 1];
                at--;
            }
            order[at] = box;
        }

        void fairBarInto(int box, Result result) {
            if (isWithin(box, 0, MOST_BOXES - 1)) {
                result.putSmall(fairTops[box], fairBottoms[box]);
            }
        }

        void searchInto(Result result) {
            opened.clear();
            sum.put(0);
            for (int i = 0; i < Math.min(all.size(), MOST_BOXES); i++) {
                Book book = all.at(order[i]);
                sum.times(book.total());
                addGains(order[i]);
                opened.join(book);
            }
            opened.divide(sum, result);
        }

        /** By the greatest seen so far, up from 0; a gain is counted as its fall to the next one's. */
        private void addGains(int box) {
            int seen = 0;
            int gain = gainAbove(seen, box);
            for (int i = 0; i <= Crowd.MOST_WORTHS && gain > 0; i++) {
                int next = opened.leastFrom(seen + 1);
                int nextGain = next == NONE ? 0 : gainAbove(next, box);
                opened.waysUpTo(seen, ways);
                sum.addTimes(ways, gain - nextGain);
                seen = next;
                gain = nextGain;
            }
        }

        private int gainAbove(int seen, int box) {
            Book book = all.at(box);
            int better = book.total() - book.below(seen);
            return Math.max(0, book.gathered(seen) - seen * better - prices[box] * book.total());
        }
    }

    /** Its bottom is made of small factors, so that lowest terms never need two great numbers' divisor. */
    private static final class Result {
        private final Natural top = new Natural();
        private final Natural bottom = new Natural();
        private final Natural left = new Natural();
        private final Natural right = new Natural();
        private int sign = 0;

        Result() {
            bottom.put(1);
        }

        void put(Natural whole) {
            top.copy(whole);
            bottom.put(1);
            sign = whole.isZero() ? 0 : 1;
        }

        void putSmall(int newTop, int newBottom) {
            left.put(Math.abs((long) newTop));
            put(left);
            over(newBottom);
            sign = Integer.compare(newTop, 0);
        }

        /** What is left of an earlier factor has no divisor with the top, and the top only loses some. */
        void over(int factor) {
            if (factor < 1) {
                return;
            }
            int common = commonDivisor(factor, top.rest(factor));
            if (common < 1) {
                return;
            }
            top.divide(common);
            bottom.times(factor / common);
        }

        /** Its bound is above the steps that any two ints take. */
        private static int commonDivisor(int a, int b) {
            int greater = a;
            int less = b;
            for (int i = 0; i < 64 && less != 0; i++) {
                int rest = greater % less;
                greater = less;
                less = rest;
            }
            return greater;
        }

        int sign() {
            return sign;
        }

        Natural digits(boolean ofBottom) {
            return ofBottom ? bottom : top;
        }

        int against(int a, int b) {
            int otherSign = Integer.compare(a, 0);
            if (sign != otherSign) {
                return Integer.compare(sign, otherSign);
            }
            left.copy(top);
            left.times(b);
            right.copy(bottom);
            right.times(Math.abs((long) a));
            return sign * left.against(right);
        }
    }

    /**
     * A whole number from 0 on, in parts of nine digits as they are asked for. The greatest is that of
     * ten comers, all taken: below 8000^10 * 10000, in compare() times 2^31 at most, which is below 10^54.
     */
    private static final class Natural {
        private static final int PARTS = 6;
        private static final long BASE = 1000000000L;

        private final int[] parts = new int[PARTS];

        void put(long value) {
            long rest = Math.max(0L, value);
            for (int i = 0; i < PARTS; i++) {
                parts[i] = (int) (rest % BASE);
                rest /= BASE;
            }
        }

        void copy(Natural other) {
            System.arraycopy(other.parts, 0, parts, 0, PARTS);
        }

        /** The factor is at most 2^31, so that a part times it fits a long with the carry. */
        void times(long factor) {
            long carry = 0;
            for (int i = 0; i < PARTS; i++) {
                carry += parts[i] * factor;
                parts[i] = (int) (carry % BASE);
                carry /= BASE;
            }
        }

        void addTimes(Natural other, long factor) {
            long carry = 0;
            for (int i = 0; i < PARTS; i++) {
                carry += parts[i] + other.parts[i] * factor;
                parts[i] = (int) (carry % BASE);
                carry /= BASE;
            }
        }

        /** Only what is not above this is taken from it. */
        void takeTimes(Natural other, long factor) {
            long carry = 0;
            for (int i = 0; i < PARTS; i++) {
                carry += parts[i] - other.parts[i] * factor;
                parts[i] = (int) Math.floorMod(carry, BASE);
                carry = Math.floorDiv(carry, BASE);
            }
        }

        void divide(int divisor) {
            if (divisor < 1) {
                return;
            }
            long rest = 0;
            for (int i = PARTS - 1; i >= 0; i--) {
                rest = rest * BASE + parts[i];
                parts[i] = (int) (rest / divisor);
                rest %= divisor;
            }
        }

        int rest(int divisor) {
            if (divisor < 1) {
                return 0;
            }
            long rest = 0;
            for (int i = PARTS - 1; i >= 0; i--) {
                rest = (rest * BASE + parts[i]) % divisor;
            }
            return (int) rest;
        }

        int against(Natural other) {
            for (int i = PARTS - 1; i >= 0; i--) {
                if (parts[i] != other.parts[i]) {
                    return Integer.compare(parts[i], other.parts[i]);
                }
            }
            return 0;
        }

        boolean isZero() {
            return partCount() == 1 && parts[0] == 0;
        }

        int partCount() {
            int used = PARTS;
            while (used > 1 && parts[used - 1] == 0) {
                used--;
            }
            return used;
        }

        int partAt(int i) {
            return isWithin(i, 0, PARTS - 1) ? parts[i] : 0;
        }
    }
}
