/** Each sentence of 'Terms' 2 and of promises 6 to 14 that names a boundary, by a method of its own. */
public final class ComersBoundsTest {
    private static final int MIN = Integer.MIN_VALUE;
    private static final int MAX = Integer.MAX_VALUE;
    private static final int NONE = ChooseOnce.NONE;

    private ComersBoundsTest() {
    }

    public static void main(String[] args) {
        booksOfComer();
        tenComers();
        comerRefusalsInOrder();
        dismissOfNone();
        dismissOfTen();
        comersOfTell();
        barsOfTell();
        tellOfNothingRight();
        barsAreZeroAtFirst();
        yesAtOrAboveTheBar();
        highestBars();
        noComerBehindIsSeen();
        nothingWithoutAYes();
        toldWithoutComers();
        toldInTheirOrder();
        bestWithoutComers();
        comersOfBar();
        lowestOfSeveralBars();
        highestBestBar();
        barsOfThoseNotComeTo();
        yesesOfFew();
        fewWithNoYes();
        fewWithMoreThanCome();
        fewWithoutComers();
        foresightWithoutComers();
        foresightOfAll();
        halfWithoutComers();
        justHalfIsEnough();
        lessThanHalfIsNot();
        halfBehindEightyWorths();
        Due.end();
    }

    /** "-2: there is no such BOOK". */
    private static void booksOfComer() {
        ChooseOnce house = new ChooseOnce();
        Due.is("comer of book 0 of none", house.comer(0), -2);
        House.book(house, 1, 1);
        House.book(house, 2, 1);
        Due.is("comer of book -1", house.comer(-1), -2);
        Due.is("comer of book 2 of two", house.comer(2), -2);
        Due.is("comer of the least book", house.comer(MIN), -2);
        Due.is("comer of the greatest book", house.comer(MAX), -2);
        Due.is("no comers yet", house.count(1), 0);
        Due.is("comer of book 1 of two", house.comer(1), 0);
        Due.is("comer of book 0 of two", house.comer(0), 1);
    }

    /** "its number (from 0 on)", "-8: there are 10". */
    private static void tenComers() {
        ChooseOnce house = new ChooseOnce();
        House.book(house, 1, 1);
        for (int i = 0; i < 10; i++) {
            Due.is("comers ahead of number " + i, house.count(1), i);
            Due.is("comer " + i, house.comer(0), i);
        }
        Due.is("the 11th", house.comer(0), -8);
        Due.is("ten", house.count(1), 10);
        house.few(10);
        Due.result("the 11th is none", house, 10, 1);
    }

    /** -2 ahead of -8. */
    private static void comerRefusalsInOrder() {
        ChooseOnce house = ten(1, 1);
        Due.is("no book 1, ten comers", house.comer(1), -2);
        Due.is("no book -1, ten comers", house.comer(-1), -2);
    }

    private static ChooseOnce ten(int... pairs) {
        ChooseOnce house = new ChooseOnce();
        House.book(house, pairs);
        for (int i = 0; i < 10; i++) {
            house.comer(0);
        }
        return house;
    }

    private static ChooseOnce comersOf(int[]... books) {
        ChooseOnce house = new ChooseOnce();
        for (int i = 0; i < books.length; i++) {
            House.book(house, books[i]);
            house.comer(i);
        }
        return house;
    }

    private static int[] pairs(int... numbers) {
        return numbers;
    }

    /** "how many there were", of none. */
    private static void dismissOfNone() {
        ChooseOnce house = new ChooseOnce();
        Due.is("dismiss at first", house.dismiss(), 0);
        House.book(house, 1, 1);
        Due.is("dismiss ahead of any comer", house.dismiss(), 0);
        house.comer(0);
        Due.is("dismiss one", house.dismiss(), 1);
        Due.is("dismiss again", house.dismiss(), 0);
    }

    /** "There are no COMERS any more", and ten can come again. */
    private static void dismissOfTen() {
        ChooseOnce house = ten(7, 1);
        Due.is("dismiss ten", house.dismiss(), 10);
        Due.is("none", house.count(1), 0);
        Due.is("no bar", house.bar(0), NONE);
        Due.is("none to tell", house.tell(0, 1), false);
        for (int i = 0; i < 10; i++) {
            Due.is("again comer " + i, house.comer(0), i);
        }
        Due.is("the 11th again", house.comer(0), -8);
    }

    /** "false, if there is no such COMER". */
    private static void comersOfTell() {
        ChooseOnce none = new ChooseOnce();
        Due.is("tell 0 of none", none.tell(0, 5), false);
        ChooseOnce house = ten(7, 1);
        for (int comer = 0; comer < 10; comer++) {
            Due.is("tell " + comer, house.tell(comer, 1001), true);
        }
        Due.is("tell -1", house.tell(-1, 0), false);
        Due.is("tell 10", house.tell(10, 0), false);
        Due.is("tell the least", house.tell(MIN, 0), false);
        Due.is("tell the greatest", house.tell(MAX, 0), false);
        house.told();
        Due.result("all ten were told, and no other bar", house, 0, 1);
    }

    /** "or b is not 0 to 1001". */
    private static void barsOfTell() {
        ChooseOnce house = comersOf(pairs(0, 1, 1000, 1), pairs(1, 1));
        Due.is("bar 0", house.tell(0, 0), true);
        Due.is("bar 1001", house.tell(0, 1001), true);
        Due.is("bar -1", house.tell(0, -1), false);
        Due.is("bar 1002", house.tell(0, 1002), false);
        Due.is("the least bar", house.tell(0, MIN), false);
        Due.is("the greatest bar", house.tell(0, MAX), false);
        house.told();
        Due.result("the bar stays 1001", house, 1, 1);
        Due.is("bar 0 again", house.tell(0, 0), true);
        Due.is("bar 1002 over bar 0", house.tell(0, 1002), false);
        house.told();
        Due.result("the bar stays 0", house, 500, 1);
    }

    private static void tellOfNothingRight() {
        ChooseOnce house = comersOf(pairs(3, 1));
        Due.is("no comer, no bar", house.tell(1, 1002), false);
        Due.is("no comer, no bar", house.tell(-1, -1), false);
        house.told();
        Due.result("refused", house, 3, 1);
    }

    /** "(0 at first)": of a new COMER, whatever the one of that number was told ahead. */
    private static void barsAreZeroAtFirst() {
        ChooseOnce house = ten(0, 1, 8, 1);
        house.told();
        Due.result("a yes to the first, even of 0", house, 4, 1);
        for (int comer = 0; comer < 10; comer++) {
            house.tell(comer, 1001);
        }
        house.dismiss();
        for (int comer = 0; comer < 10; comer++) {
            house.comer(0);
        }
        house.told();
        Due.result("a yes to the first again", house, 4, 1);
        house.tell(0, 1);
        house.told();
        Due.result("a yes to the second, even of 0", house, 6, 1);
    }

    /** "yes to the first whose WORTH is at or above its BAR". */
    private static void yesAtOrAboveTheBar() {
        ChooseOnce house = comersOf(pairs(50, 1), pairs(7, 1));
        house.tell(0, 49);
        house.told();
        Due.result("a worth just above the bar", house, 50, 1);
        house.tell(0, 50);
        house.told();
        Due.result("a worth at the bar", house, 50, 1);
        house.tell(0, 51);
        house.told();
        Due.result("a worth just below the bar", house, 7, 1);
    }

    /** BARS of 1000 and 1001, and of 0 and 1. */
    private static void highestBars() {
        ChooseOnce house = comersOf(pairs(1000, 1), pairs(0, 1), pairs(9, 1));
        house.tell(0, 1000);
        house.told();
        Due.result("1000 is at 1000", house, 1000, 1);
        house.tell(0, 1001);
        house.told();
        Due.result("1000 is below 1001, 0 is at 0", house, 0, 1);
        house.tell(1, 1);
        house.told();
        Due.result("0 is below 1", house, 9, 1);
    }

    /** "no comer behind is seen". */
    private static void noComerBehindIsSeen() {
        ChooseOnce house = comersOf(pairs(1, 1), pairs(1000, 1));
        house.told();
        Due.result("the first, though the second is better", house, 1, 1);
    }

    /** "without any yes one has 0". */
    private static void nothingWithoutAYes() {
        ChooseOnce house = comersOf(pairs(1000, 1), pairs(1000, 1));
        house.letting(2, 0);
        house.tell(0, 1001);
        house.tell(1, 1001);
        house.told();
        Due.result("no yes", house, 0, 1);
    }

    private static void toldWithoutComers() {
        ChooseOnce house = new ChooseOnce();
        house.letting(2, 0);
        house.told();
        Due.result("told without comers", house, 0, 1);
    }

    /** "come in the order in which they were told". */
    private static void toldInTheirOrder() {
        ChooseOnce house = new ChooseOnce();
        for (int worth = 1; worth <= 10; worth++) {
            House.book(house, worth, 1);
        }
        for (int i = 0; i < 10; i++) {
            house.comer((3 * i + 4) % 10);
        }
        for (int i = 0; i < 10; i++) {
            house.told();
            Due.result("comer " + i, house, (3 * i + 4) % 10 + 1, 1);
            house.tell(i, 1001);
        }
    }

    private static void bestWithoutComers() {
        ChooseOnce house = ten(5, 1);
        house.best();
        Due.result("ten alike", house, 5, 1);
        house.dismiss();
        house.best();
        Due.result("best without comers", house, 0, 1);
    }

    /** "NONE if there is no such COMER". */
    private static void comersOfBar() {
        ChooseOnce none = new ChooseOnce();
        Due.is("bar 0 of none", none.bar(0), NONE);
        Due.is("bar -1 of none", none.bar(-1), NONE);
        ChooseOnce house = ten(0, 1, 8, 1);
        Due.is("bar -1", house.bar(-1), NONE);
        Due.is("bar 10", house.bar(10), NONE);
        Due.is("the least bar", house.bar(MIN), NONE);
        Due.is("the greatest bar", house.bar(MAX), NONE);
        for (int comer = 0; comer < 9; comer++) {
            Due.is("bar " + comer, house.bar(comer), 1);
        }
        Due.is("bar 9", house.bar(9), 0);
    }

    /** "of several the one with the lowest BARS". */
    private static void lowestOfSeveralBars() {
        ChooseOnce tie = comersOf(pairs(0, 1, 10, 1, 20, 1), pairs(0, 1, 20, 1));
        Due.is("10 is as good as a no", tie.bar(0), 1);
        ChooseOnce below = comersOf(pairs(0, 1, 9, 1, 20, 1), pairs(0, 1, 20, 1));
        Due.is("9 is just below a no", below.bar(0), 10);
        ChooseOnce above = comersOf(pairs(0, 1, 11, 1, 20, 1), pairs(0, 1, 20, 1));
        Due.is("11 is just above a no, 0 below", above.bar(0), 1);
        ChooseOnce alike = comersOf(pairs(10, 1), pairs(10, 1));
        Due.is("all bars up to 10 are as good, and all above", alike.bar(0), 0);
        ChooseOnce parts = comersOf(pairs(3, 1, 4, 1), pairs(3, 1, 4, 2));
        Due.is("3 is below 11 / 3, 4 is not", parts.bar(0), 4);
        ChooseOnce zero = comersOf(pairs(0, 1), pairs(0, 1));
        Due.is("0 is as good as nothing", zero.bar(0), 0);
        Due.is("of the last, too", zero.bar(1), 0);
    }

    /** No BAR above 1000 is ever the best, as no WORTH is. */
    private static void highestBestBar() {
        ChooseOnce house = comersOf(pairs(999, 1), pairs(1000, 1));
        Due.is("999 is below 1000", house.bar(0), 1000);
        ChooseOnce same = comersOf(pairs(1000, 1), pairs(1000, 1));
        Due.is("1000 is as good as 1000", same.bar(0), 0);
        ChooseOnce eight = comersOf(pairs(1, 1, 2, 1, 3, 1, 4, 1, 5, 1, 6, 1, 7, 1, 8, 1), pairs(1000, 1));
        Due.is("all eight worths are below", eight.bar(0), 9);
        eight.best();
        Due.result("the second", eight, 1000, 1);
    }

    /** "BARS of comers that can not be come to count, too, as if they were come to". */
    private static void barsOfThoseNotComeTo() {
        ChooseOnce house = comersOf(pairs(1000, 1), pairs(2, 1, 4, 1, 6, 1), pairs(5, 1), pairs(0, 1));
        Due.is("the first is always taken", house.bar(0), 0);
        Due.is("the second as if it were come to", house.bar(1), 5);
        Due.is("the third as if it were come to", house.bar(2), 0);
        Due.is("the last as if it were come to", house.bar(3), 0);
    }

    /** "false, if k is not 0 to 10". */
    private static void yesesOfFew() {
        ChooseOnce house = ten(7, 1);
        for (int k = 0; k <= 10; k++) {
            Due.is("few " + k, house.few(k), true);
            Due.result("few " + k, house, 7L * k, 1);
        }
        Due.is("few -1", house.few(-1), false);
        Due.is("few 11", house.few(11), false);
        Due.is("the least few", house.few(MIN), false);
        Due.is("the most few", house.few(MAX), false);
        Due.result("refused: that of ten stays", house, 70, 1);
    }

    private static void fewWithNoYes() {
        ChooseOnce house = ten(7, 1);
        house.best();
        Due.is("few 0", house.few(0), true);
        Due.result("no yes at all", house, 0, 1);
    }

    /** "up to k times": k may be above how many come. */
    private static void fewWithMoreThanCome() {
        ChooseOnce house = comersOf(pairs(0, 1, 9, 2), pairs(1, 1, 4, 1));
        for (int k = 2; k <= 10; k++) {
            Due.is("few " + k + " of two", house.few(k), true);
            Due.result("few " + k + " of two", house, 17, 2);
        }
    }

    private static void fewWithoutComers() {
        ChooseOnce house = new ChooseOnce();
        for (int k = 0; k <= 10; k++) {
            house.letting(2, 0);
            Due.is("few " + k + " of none", house.few(k), true);
            Due.result("few " + k + " of none", house, 0, 1);
        }
        Due.is("few 11 of none", house.few(11), false);
        Due.is("few -1 of none", house.few(-1), false);
    }

    /** "(0 without)". */
    private static void foresightWithoutComers() {
        ChooseOnce house = new ChooseOnce();
        house.letting(2, 0);
        house.foresight();
        Due.result("foresight without comers", house, 0, 1);
    }

    /** "the greatest WORTH of all COMERS", up to eighty different ones. */
    private static void foresightOfAll() {
        ChooseOnce zeros = ten(0, 1);
        zeros.foresight();
        Due.result("ten of 0", zeros, 0, 1);
        ChooseOnce most = ten(1000, 1);
        most.foresight();
        Due.result("ten of 1000", most, 1000, 1);
        ChooseOnce house = comersOf(eightyWorths());
        Fraction foresight = Fraction.ZERO;
        Fraction above = Fraction.ZERO;
        // By comer, how many of its eight worths are below the one that the loop is at.
        int[] left = {8, 8, 8, 8, 8, 8, 8, 8, 8, 8};
        for (int worth = 80; worth >= 1; worth--) {
            left[(worth - 1) % 10]--;
            Fraction atLeast = Fraction.ONE;
            for (int below : left) {
                atLeast = atLeast.times(Fraction.of(below, 8));
            }
            atLeast = Fraction.ONE.minus(atLeast);
            foresight = foresight.plus(atLeast.minus(above).times(Fraction.of(worth, 1)));
            above = atLeast;
        }
        house.foresight();
        Due.result("eighty worths", house, foresight);
    }

    /** The book of comer i has i + 1, i + 11, .., i + 71, alike likely. */
    private static int[][] eightyWorths() {
        int[][] books = new int[10][16];
        for (int i = 0; i < 10; i++) {
            for (int pair = 0; pair < 8; pair++) {
                books[i][2 * pair] = 10 * pair + i + 1;
                books[i][2 * pair + 1] = 1;
            }
        }
        return books;
    }

    private static void halfWithoutComers() {
        ChooseOnce house = new ChooseOnce();
        Due.is("half without comers", house.half(), 0);
        ChooseOnce zeros = ten(0, 1);
        Due.is("half of 0", zeros.half(), 0);
    }

    /** "at least half of FORESIGHT". */
    private static void justHalfIsEnough() {
        ChooseOnce house = comersOf(pairs(500, 1), pairs(1000, 1));
        Due.is("500 is just half of 1000", house.half(), 0);
        ChooseOnce later = comersOf(pairs(0, 1), pairs(10, 1), pairs(20, 1));
        Due.is("10 is just half of 20, 0 is not", later.half(), 1);
    }

    private static void lessThanHalfIsNot() {
        ChooseOnce house = comersOf(pairs(499, 1), pairs(1000, 1));
        Due.is("499 is less than half of 1000", house.half(), 500);
        ChooseOnce later = comersOf(pairs(0, 1), pairs(9, 1), pairs(20, 1));
        Due.is("9 is less than half of 20", later.half(), 10);
        ChooseOnce twice = comersOf(pairs(1, 1), pairs(3, 1), pairs(9, 1), pairs(20, 1));
        Due.is("1, 3 and 9 are less than half of 20", twice.half(), 10);
    }

    /** "the lowest BAR", with many WORTHS below it. */
    private static void halfBehindEightyWorths() {
        ChooseOnce house = comersOf(
            pairs(1, 1, 2, 1, 3, 1, 4, 1, 5, 1, 6, 1, 7, 1, 8, 1),
            pairs(9, 1, 10, 1, 11, 1, 12, 1, 13, 1, 14, 1, 15, 1, 16, 1),
            pairs(17, 1, 18, 1, 19, 1, 20, 1, 21, 1, 22, 1, 23, 1, 24, 1),
            pairs(25, 1, 26, 1, 27, 1, 28, 1, 29, 1, 30, 1, 31, 1, 32, 1),
            pairs(33, 1, 34, 1, 35, 1, 36, 1, 37, 1, 38, 1, 39, 1, 40, 1),
            pairs(41, 1, 42, 1, 43, 1, 44, 1, 45, 1, 46, 1, 47, 1, 48, 1),
            pairs(49, 1, 50, 1, 51, 1, 52, 1, 53, 1, 54, 1, 55, 1, 56, 1),
            pairs(57, 1, 58, 1, 59, 1, 60, 1, 61, 1, 62, 1, 63, 1, 64, 1),
            pairs(65, 1, 66, 1, 67, 1, 68, 1, 69, 1, 70, 1, 71, 1, 72, 1),
            pairs(1000, 1));
        // With a bar of 65 to 72 some of the ninth are taken: from 69 on at most half are, which has above 500.
        Due.is("half behind 72 worths", house.half(), 69);
    }
}
