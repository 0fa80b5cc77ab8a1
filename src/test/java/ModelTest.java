import java.util.ArrayList;
import java.util.List;

/** Holds the house against plain enumeration, on many houses that are made from a fixed row of numbers. */
public final class ModelTest {
    private static long state = 20240229L;

    private ModelTest() {
    }

    public static void main(String[] args) {
        for (int i = 0; i < 150; i++) {
            comers(1 + draw(4), 1 + draw(3), i % 3 == 0 ? 6 : 1000);
        }
        for (int i = 0; i < 12; i++) {
            comersByTheirChances(7 + draw(4), 8, 1000);
        }
        for (int i = 0; i < 120; i++) {
            boxes(1 + draw(4), 1 + draw(3), i % 3 == 0 ? 12 : 1000);
        }
        for (int i = 0; i < 4; i++) {
            boxes(6, 2 + i % 2, 40);
        }
        for (int n = 1; n <= 7; n++) {
            orders(n);
        }
        ranksByTheirChances();
        lettingAll();
        for (int i = 0; i < 150; i++) {
            happenings(1 + draw(8), i % 2 == 0 ? 4 : 100);
        }
        Due.end();
    }

    /** 0 to bound - 1. */
    private static int draw(int bound) {
        state = state * 6364136223846793005L + 1442695040888963407L;
        return (int) Math.floorMod(state >> 33, (long) bound);
    }

    private static int[] drawPairs(int pairs, int highest) {
        int[] numbers = new int[2 * pairs];
        for (int i = 0; i < pairs; i++) {
            numbers[2 * i] = draw(highest + 1);
            numbers[2 * i + 1] = draw(3) == 0 ? draw(3) : draw(highest == 1000 ? 1001 : 8);
        }
        numbers[1] = Math.max(1, numbers[1]);
        return numbers;
    }

    private static Fraction chance(int[] pairs, int i) {
        long total = 0;
        for (int k = 0; k < pairs.length / 2; k++) {
            total += pairs[2 * k + 1];
        }
        return Fraction.of(pairs[2 * i + 1], total);
    }

    private static Fraction whole(long value) {
        return Fraction.of(value, 1);
    }

    // Comers

    private static void comers(int n, int pairs, int highest) {
        ChooseOnce house = new ChooseOnce();
        List<int[]> books = drawBooks(house, n, pairs, highest);
        int[] bars = new int[n];
        for (int i = 0; i < n; i++) {
            house.comer(i);
            bars[i] = draw(4) == 0 ? books.get(i)[0] : draw(highest + 2);
            house.tell(i, bars[i]);
        }
        house.told();
        Due.result("told", house, follow(books, bars, 0, new int[n]));
        house.foresight();
        Fraction foresight = greatest(books, 0, 0);
        Due.result("foresight", house, foresight);
        bestAndFew(house, books);
        bestBarsAreLowest(house, books);
        Due.is("half", house.half(), lowestForHalf(books, foresight));
    }

    private static List<int[]> drawBooks(ChooseOnce house, int n, int pairs, int highest) {
        List<int[]> books = new ArrayList<>();
        for (int i = 0; i < n; i++) {
            int[] numbers = drawPairs(pairs, highest);
            books.add(numbers);
            Due.is("book", House.book(house, numbers), i);
        }
        return books;
    }

    /** Sees all worths of all comers, and only then goes along them. */
    private static Fraction follow(List<int[]> books, int[] bars, int at, int[] seen) {
        if (at == books.size()) {
            for (int i = 0; i < at; i++) {
                if (seen[i] >= bars[i]) {
                    return whole(seen[i]);
                }
            }
            return Fraction.ZERO;
        }
        Fraction sum = Fraction.ZERO;
        for (int i = 0; i < books.get(at).length / 2; i++) {
            seen[at] = books.get(at)[2 * i];
            sum = sum.plus(follow(books, bars, at + 1, seen).times(chance(books.get(at), i)));
        }
        return sum;
    }

    private static Fraction greatest(List<int[]> books, int at, int seen) {
        if (at == books.size()) {
            return whole(seen);
        }
        Fraction sum = Fraction.ZERO;
        for (int i = 0; i < books.get(at).length / 2; i++) {
            Fraction rest = greatest(books, at + 1, Math.max(seen, books.get(at)[2 * i]));
            sum = sum.plus(rest.times(chance(books.get(at), i)));
        }
        return sum;
    }

    private static Fraction bestFrom(List<int[]> books, int at, int yeses) {
        if (at == books.size() || yeses == 0) {
            return Fraction.ZERO;
        }
        Fraction no = bestFrom(books, at + 1, yeses);
        Fraction yes = bestFrom(books, at + 1, yeses - 1);
        Fraction sum = Fraction.ZERO;
        for (int i = 0; i < books.get(at).length / 2; i++) {
            Fraction better = no.max(yes.plus(whole(books.get(at)[2 * i])));
            sum = sum.plus(better.times(chance(books.get(at), i)));
        }
        return sum;
    }

    private static void bestAndFew(ChooseOnce house, List<int[]> books) {
        house.best();
        Due.result("best", house, bestFrom(books, 0, 1));
        for (int k = 0; k <= 10; k++) {
            Due.is("few", house.few(k), true);
            Due.result("few " + k, house, bestFrom(books, 0, k));
        }
    }

    /** A bar of a comer is right if the rule from it on has the best worth, and no lower bar does so. */
    private static void bestBarsAreLowest(ChooseOnce house, List<int[]> books) {
        int[] bars = new int[books.size()];
        for (int at = books.size() - 1; at >= 0; at--) {
            bars[at] = house.bar(at);
            Fraction best = bestFrom(books, at, 1);
            Fraction no = bestFrom(books, at + 1, 1);
            Due.is("the best bars have the best worth", barred(books.get(at), bars[at], no).compareTo(best), 0);
            for (int lower = Math.max(0, bars[at] - 40); lower < bars[at]; lower++) {
                Due.is("a lower bar has less", barred(books.get(at), lower, no).compareTo(best), -1);
            }
            Due.is("bar 0 has less, or is it", bars[at] == 0 || barred(books.get(at), 0, no).compareTo(best) < 0, true);
        }
    }

    private static Fraction barred(int[] pairs, int bar, Fraction no) {
        Fraction sum = Fraction.ZERO;
        for (int i = 0; i < pairs.length / 2; i++) {
            sum = sum.plus(chance(pairs, i).times(pairs[2 * i] >= bar ? whole(pairs[2 * i]) : no));
        }
        return sum;
    }

    private static int lowestForHalf(List<int[]> books, Fraction foresight) {
        for (int bar = 0; bar <= 1001; bar++) {
            Fraction mean = Fraction.ZERO;
            for (int at = books.size() - 1; at >= 0; at--) {
                mean = barred(books.get(at), bar, mean);
            }
            if (mean.times(whole(2)).compareTo(foresight) >= 0) {
                return bar;
            }
        }
        return -99;
    }

    /** Too many to see all of: by the comers' chances, each worth from 1 to 1000 by itself. */
    private static void comersByTheirChances(int n, int pairs, int highest) {
        ChooseOnce house = new ChooseOnce();
        List<int[]> books = drawBooks(house, n, pairs, highest);
        int[] bars = new int[n];
        for (int i = 0; i < n; i++) {
            house.comer(i);
            bars[i] = draw(800);
            house.tell(i, bars[i]);
        }
        Fraction told = Fraction.ZERO;
        for (int i = n - 1; i >= 0; i--) {
            told = barred(books.get(i), bars[i], told);
        }
        house.told();
        Due.result("told of many", house, told);
        Fraction foresight = Fraction.ZERO;
        Fraction notReached = Fraction.ZERO;
        for (int worth = 1; worth <= 1000; worth++) {
            notReached = worth > 1 && !isMet(books, worth - 1) ? notReached : allBelow(books, worth);
            foresight = foresight.plus(Fraction.ONE.minus(notReached));
        }
        house.foresight();
        Due.result("foresight of many", house, foresight);
        Due.is("half of many", house.half(), lowestForHalf(books, foresight));
        bestOfMany(house, books);
    }

    private static boolean isMet(List<int[]> books, int worth) {
        for (int[] pairs : books) {
            for (int i = 0; i < pairs.length; i += 2) {
                if (pairs[i] == worth) {
                    return true;
                }
            }
        }
        return false;
    }

    private static Fraction allBelow(List<int[]> books, int worth) {
        Fraction product = Fraction.ONE;
        for (int[] pairs : books) {
            Fraction below = Fraction.ZERO;
            for (int i = 0; i < pairs.length / 2; i++) {
                below = pairs[2 * i] < worth ? below.plus(chance(pairs, i)) : below;
            }
            product = product.times(below);
        }
        return product;
    }

    private static void bestOfMany(ChooseOnce house, List<int[]> books) {
        Fraction[] means = new Fraction[11];
        for (int k = 0; k <= 10; k++) {
            means[k] = Fraction.ZERO;
        }
        for (int at = books.size() - 1; at >= 0; at--) {
            int[] pairs = books.get(at);
            Due.is("bar of many", house.bar(at), lowestBar(pairs, means[1]));
            for (int k = 10; k >= 1; k--) {
                Fraction sum = Fraction.ZERO;
                for (int i = 0; i < pairs.length / 2; i++) {
                    Fraction better = means[k].max(means[k - 1].plus(whole(pairs[2 * i])));
                    sum = sum.plus(better.times(chance(pairs, i)));
                }
                means[k] = sum;
            }
        }
        for (int k = 0; k <= 10; k++) {
            house.few(k);
            Due.result("few of many " + k, house, means[k]);
            compareAround(house, means[k]);
        }
        house.best();
        Due.result("best of many", house, means[1]);
    }

    /** Just at, below and above, with bottoms up to the greatest. */
    private static void compareAround(ChooseOnce house, Fraction result) {
        for (int turn = 0; turn < 6; turn++) {
            int b = turn == 0 ? Integer.MAX_VALUE : 1 + draw(turn % 2 == 0 ? 200_000 : Integer.MAX_VALUE);
            long near = result.top.multiply(whole(b).top).divide(result.bottom).longValue() + turn % 3 - 1;
            int a = (int) Math.min(Integer.MAX_VALUE, near);
            Due.is("compare " + a + " " + b, house.compare(a, b), result.compareTo(Fraction.of(a, b)));
        }
    }

    private static int lowestBar(int[] pairs, Fraction no) {
        int bar = 0;
        for (int i = 0; i < pairs.length / 2; i++) {
            if (pairs[2 * i + 1] > 0 && whole(pairs[2 * i]).compareTo(no) < 0) {
                bar = Math.max(bar, pairs[2 * i] + 1);
            }
        }
        return bar;
    }

    // Boxes

    private static void boxes(int n, int pairs, int highest) {
        ChooseOnce house = new ChooseOnce();
        List<int[]> books = drawBooks(house, n, pairs, highest);
        int[] prices = new int[n];
        for (int i = 0; i < n; i++) {
            prices[i] = draw(5) == 0 ? 0 : draw(1 + highest / (1 + draw(6)));
            house.box(i, prices[i]);
        }
        for (int i = 0; i < n; i++) {
            fairBar(house, books.get(i), prices[i], i);
        }
        house.search();
        Due.result("search", house, openAny(books, prices, 0, 0));
    }

    /** Tries every box next, and to stop, whatever has been seen. */
    private static Fraction openAny(List<int[]> books, int[] prices, int opened, int seen) {
        Fraction best = whole(seen);
        for (int box = 0; box < books.size(); box++) {
            if ((opened >> box & 1) == 0) {
                Fraction sum = whole(-prices[box]);
                int[] pairs = books.get(box);
                for (int i = 0; i < pairs.length / 2; i++) {
                    if (pairs[2 * i + 1] > 0) {
                        Fraction rest = openAny(books, prices, opened | 1 << box, Math.max(seen, pairs[2 * i]));
                        sum = sum.plus(rest.times(chance(pairs, i)));
                    }
                }
                best = best.max(sum);
            }
        }
        return best;
    }

    private static void fairBar(ChooseOnce house, int[] pairs, int price, int box) {
        Due.is("fair", house.fair(box), true);
        Fraction bar = Fraction.of((long) house.look(0) * house.part(false, 0), house.part(true, 0));
        Due.result("fair bar in lowest terms", house, bar);
        Fraction above = Fraction.ZERO;
        int greatest = 0;
        for (int i = 0; i < pairs.length / 2; i++) {
            above = above.plus(whole(pairs[2 * i]).minus(bar).max(Fraction.ZERO).times(chance(pairs, i)));
            greatest = pairs[2 * i + 1] > 0 ? Math.max(greatest, pairs[2 * i]) : greatest;
        }
        Due.is("a fair bar's gain is its price", above.compareTo(whole(price)), 0);
        if (price == 0) {
            Due.result("the fair bar of a free box", house, greatest, 1);
        }
    }

    // Ranks

    /** All orders of n, by what is known when each has come. */
    private static void orders(int n) {
        List<int[]> orders = new ArrayList<>();
        permute(new int[n], 0, orders);
        for (int r = 0; r < n; r++) {
            lettingBySight(n, r, orders);
        }
        for (int turn = 0; turn < 12; turn++) {
            ChooseOnce house = new ChooseOnce();
            int[] pays = new int[n + 1];
            for (int rank = 1; rank <= n; rank++) {
                pays[rank] = turn % 2 == 0 ? draw(1001) : draw(3);
                house.pay(rank, pays[rank]);
            }
            Fraction best = paySum(house, orders, pays, 1).times(Fraction.of(1, orders.size()));
            Due.is("ranks", house.ranks(n), true);
            Due.result("ranks of " + n, house, best);
        }
    }

    private static void permute(int[] order, int at, List<int[]> orders) {
        if (at == order.length) {
            orders.add(order.clone());
            return;
        }
        for (int rank = 1; rank <= order.length; rank++) {
            boolean free = true;
            for (int i = 0; i < at; i++) {
                free &= order[i] != rank;
            }
            if (free) {
                order[at] = rank;
                permute(order, at + 1, orders);
            }
        }
    }

    private static int rankSoFar(int[] order, int j) {
        int rank = 1;
        for (int i = 0; i < j - 1; i++) {
            rank += order[i] < order[j - 1] ? 1 : 0;
        }
        return rank;
    }

    /** The orders here look alike up to the one ahead of the j-th: the best sum of pays over them. */
    private static Fraction paySum(ChooseOnce house, List<int[]> orders, int[] pays, int j) {
        int n = pays.length - 1;
        Fraction sum = Fraction.ZERO;
        for (int s = 1; s <= j; s++) {
            List<int[]> alike = new ArrayList<>();
            Fraction yes = Fraction.ZERO;
            for (int[] order : orders) {
                if (rankSoFar(order, j) == s) {
                    alike.add(order);
                    yes = yes.plus(whole(pays[order[j - 1]]));
                }
            }
            Fraction no = j == n ? yes : paySum(house, alike, pays, j + 1);
            if (n <= 5) {
                Due.is("yes " + n + " " + j + " " + s, house.yes(n, j, s), yes.compareTo(no) >= 0 ? 1 : 0);
            }
            sum = sum.plus(yes.max(no));
        }
        return sum;
    }

    private static void lettingBySight(int n, int r, List<int[]> orders) {
        int wins = 0;
        for (int[] order : orders) {
            int j = r + 1;
            while (j <= n && rankSoFar(order, j) != 1) {
                j++;
            }
            wins += j <= n && order[j - 1] == 1 ? 1 : 0;
        }
        ChooseOnce house = new ChooseOnce();
        Due.is("letting", house.letting(n, r), true);
        Due.result("letting " + n + " " + r, house, wins, orders.size());
    }

    private static void lettingAll() {
        for (int n = 1; n <= 60; n++) {
            int best = 0;
            Fraction most = Fraction.ZERO;
            for (int r = 0; r < n; r++) {
                ChooseOnce house = new ChooseOnce();
                Fraction win = r == 0 ? Fraction.of(1, n) : Fraction.ZERO;
                for (int j = r + 1; r > 0 && j <= n; j++) {
                    win = win.plus(Fraction.of(r, (long) n * (j - 1)));
                }
                house.letting(n, r);
                Due.result("letting " + n + " " + r, house, win);
                if (win.compareTo(most) > 0) {
                    most = win;
                    best = r;
                }
            }
            Due.is("pass " + n, new ChooseOnce().pass(n), best);
        }
    }

    /** By the chances of the rank among all, given that among j: ways to choose the others. */
    private static void ranksByTheirChances() {
        for (int n = 8; n <= 20; n++) {
            ChooseOnce house = new ChooseOnce();
            long[] pays = new long[n + 1];
            for (int rank = 1; rank <= n; rank++) {
                pays[rank] = n == 20 ? 1001 - rank * rank % 7 * rank : draw(1001);
                pays[rank] = Math.max(0, Math.min(1000, pays[rank]));
                house.pay(rank, (int) pays[rank]);
            }
            Fraction ahead = Fraction.ZERO;
            for (int j = n; j >= 1; j--) {
                Fraction sum = Fraction.ZERO;
                for (int s = 1; s <= j; s++) {
                    Fraction yes = meanPay(pays, n, j, s);
                    boolean taken = j == n || yes.compareTo(ahead) >= 0;
                    Due.is("yes " + n + " " + j + " " + s, house.yes(n, j, s), taken ? 1 : 0);
                    sum = sum.plus(taken ? yes : ahead);
                }
                ahead = sum.times(Fraction.of(1, j));
            }
            house.ranks(n);
            Due.result("ranks of " + n, house, ahead);
        }
    }

    private static Fraction meanPay(long[] pays, int n, int j, int s) {
        Fraction sum = Fraction.ZERO;
        for (int rank = s; rank <= n - j + s; rank++) {
            long ways = choose(rank - 1, s - 1) * choose(n - rank, j - s);
            sum = sum.plus(Fraction.of(ways * pays[rank], choose(n, j)));
        }
        return sum;
    }

    private static long choose(int n, int k) {
        long ways = 1;
        for (int i = 1; i <= k; i++) {
            ways = ways * (n - k + i) / i;
        }
        return ways;
    }

    // Happenings

    private static void happenings(int n, int finest) {
        ChooseOnce house = new ChooseOnce();
        int[] tops = new int[n];
        int[] bottoms = new int[n];
        for (int i = 0; i < n; i++) {
            bottoms[i] = 1 + draw(finest);
            tops[i] = draw(bottoms[i] + 1);
            Due.is("happen", house.happen(tops[i], bottoms[i]), i);
        }
        int start = 0;
        Fraction most = Fraction.ZERO;
        for (int from = 0; from < n; from++) {
            Fraction win = winFrom(tops, bottoms, from);
            if (win.compareTo(most) >= 0) {
                most = win;
                start = from;
            }
        }
        Due.is("last", house.last(), start);
        Due.result("the chance of last", house, most);
    }

    /** Over all ways in which they can happen. */
    private static Fraction winFrom(int[] tops, int[] bottoms, int from) {
        Fraction sum = Fraction.ZERO;
        for (int set = 0; set < 1 << tops.length; set++) {
            int said = -1;
            int lastOne = -1;
            Fraction chance = Fraction.ONE;
            for (int i = 0; i < tops.length; i++) {
                boolean happens = (set >> i & 1) == 1;
                chance = chance.times(Fraction.of(happens ? tops[i] : bottoms[i] - tops[i], bottoms[i]));
                said = happens && said < 0 && i >= from ? i : said;
                lastOne = happens ? i : lastOne;
            }
            if (said >= 0 && said == lastOne) {
                sum = sum.plus(chance);
            }
        }
        return sum;
    }
}
