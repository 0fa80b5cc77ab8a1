/** Each sentence of 'Terms' 4 and of promises 23 to 26 that names a boundary, by a method of its own. */
public final class BoxesBoundsTest {
    private static final int MIN = Integer.MIN_VALUE;
    private static final int MAX = Integer.MAX_VALUE;

    private BoxesBoundsTest() {
    }

    public static void main(String[] args) {
        booksOfBox();
        pricesOfBox();
        sixBoxes();
        boxRefusalsInOrder();
        emptyOfNone();
        emptyOfSix();
        boxesOfFair();
        fairOfNone();
        fairBarAboveAtAndBelowZero();
        fairBarAtAWorth();
        fairBarOfNoPrice();
        fairBarOfEightWorths();
        fairBarOfTheHighestPrice();
        searchWithoutBoxes();
        searchWithoutAnyOpened();
        searchAtTheVeryPrice();
        searchStopsAtTheFairBar();
        searchOfSix();
        searchOfFortyEightWorths();
        searchOfFreeBoxes();
        Due.end();
    }

    private static ChooseOnce box(int price, int... pairs) {
        ChooseOnce house = new ChooseOnce();
        House.book(house, pairs);
        house.box(0, price);
        return house;
    }

    private static void fairIs(long top, long bottom, int price, int... pairs) {
        ChooseOnce house = box(price, pairs);
        Due.is("fair at " + price, house.fair(0), true);
        Due.result("fair at " + price, house, top, bottom);
    }

    /** "-2: there is no such BOOK". */
    private static void booksOfBox() {
        ChooseOnce house = new ChooseOnce();
        Due.is("box of book 0 of none", house.box(0, 5), -2);
        House.book(house, 1, 1);
        House.book(house, 2, 1);
        Due.is("box of book -1", house.box(-1, 5), -2);
        Due.is("box of book 2 of two", house.box(2, 5), -2);
        Due.is("box of the least book", house.box(MIN, 5), -2);
        Due.is("box of the greatest book", house.box(MAX, 5), -2);
        Due.is("no boxes yet", house.count(3), 0);
        Due.is("box of book 1 of two", house.box(1, 5), 0);
        Due.is("box of book 0 of two", house.box(0, 5), 1);
    }

    /** "or the price is not 0 to 1000". */
    private static void pricesOfBox() {
        ChooseOnce house = new ChooseOnce();
        House.book(house, 1000, 1);
        Due.is("price -1", house.box(0, -1), -2);
        Due.is("price 1001", house.box(0, 1001), -2);
        Due.is("the least price", house.box(0, MIN), -2);
        Due.is("the greatest price", house.box(0, MAX), -2);
        Due.is("no boxes yet", house.count(3), 0);
        Due.is("price 0", house.box(0, 0), 0);
        Due.is("price 1000", house.box(0, 1000), 1);
        house.fair(0);
        Due.result("price 0", house, 1000, 1);
        house.fair(1);
        Due.result("price 1000", house, 0, 1);
    }

    /** "its number (from 0 on)", "-8: there are 6". */
    private static void sixBoxes() {
        ChooseOnce house = new ChooseOnce();
        House.book(house, 1, 1);
        House.book(house, 1000, 1);
        for (int i = 0; i < 6; i++) {
            Due.is("boxes ahead of number " + i, house.count(3), i);
            Due.is("box " + i, house.box(0, 0), i);
        }
        Due.is("the 7th", house.box(1, 0), -8);
        Due.is("six", house.count(3), 6);
        house.search();
        Due.result("the 7th is none", house, 1, 1);
        house.fair(5);
        Due.result("the 6th is as it was", house, 1, 1);
    }

    /** -2 ahead of -8. */
    private static void boxRefusalsInOrder() {
        ChooseOnce house = new ChooseOnce();
        House.book(house, 1, 1);
        for (int i = 0; i < 6; i++) {
            house.box(0, 0);
        }
        Due.is("no book 1, six boxes", house.box(1, 0), -2);
        Due.is("no book -1, six boxes", house.box(-1, 0), -2);
        Due.is("price -1, six boxes", house.box(0, -1), -2);
        Due.is("price 1001, six boxes", house.box(0, 1001), -2);
        Due.is("all right, six boxes", house.box(0, 1000), -8);
    }

    /** "how many there were", of none. */
    private static void emptyOfNone() {
        ChooseOnce house = new ChooseOnce();
        Due.is("empty at first", house.empty(), 0);
        House.book(house, 1, 1);
        house.box(0, 1);
        Due.is("empty one", house.empty(), 1);
        Due.is("empty again", house.empty(), 0);
    }

    /** "There are no BOXES any more", and six can be told again. */
    private static void emptyOfSix() {
        ChooseOnce house = new ChooseOnce();
        House.book(house, 9, 1);
        for (int i = 0; i < 6; i++) {
            house.box(0, i);
        }
        Due.is("empty six", house.empty(), 6);
        Due.is("none", house.count(3), 0);
        Due.is("fair of none", house.fair(0), false);
        for (int i = 0; i < 6; i++) {
            Due.is("again " + i, house.box(0, 8), i);
        }
        Due.is("the 7th again", house.box(0, 8), -8);
        house.search();
        Due.result("nothing is left of those ahead", house, 1, 1);
    }

    /** "false, if there is none such". */
    private static void boxesOfFair() {
        ChooseOnce house = new ChooseOnce();
        House.book(house, 9, 1);
        for (int n = 0; n <= 6; n++) {
            Due.is("fair " + n + " of " + n, house.fair(n), false);
            Due.is("fair -1 of " + n, house.fair(-1), false);
            if (n > 0) {
                Due.is("fair 0 of " + n, house.fair(0), true);
                Due.result("fair 0 of " + n, house, 9, 1);
                Due.is("fair " + (n - 1) + " of " + n, house.fair(n - 1), true);
                Due.result("fair " + (n - 1) + " of " + n, house, 10 - n, 1);
            }
            house.box(0, n);
        }
        Due.is("the least fair", house.fair(MIN), false);
        Due.is("the greatest fair", house.fair(MAX), false);
        Due.result("refused: the result stays", house, 4, 1);
    }

    private static void fairOfNone() {
        ChooseOnce house = new ChooseOnce();
        house.letting(5, 2);
        Due.is("fair of none", house.fair(0), false);
        Due.result("refused: the result stays", house, 13, 30);
    }

    /** "the number x (perhaps below 0)". */
    private static void fairBarAboveAtAndBelowZero() {
        fairIs(1, 1, 4, 5, 1);
        fairIs(0, 1, 5, 5, 1);
        fairIs(-1, 1, 6, 5, 1);
        fairIs(1, 1, 9, 19, 1, 0, 1);
        fairIs(0, 1, 9, 18, 1, 0, 1);
        fairIs(-1, 2, 9, 17, 1, 0, 1);
        fairIs(-1, 1, 1, 0, 1);
    }

    /** "(0 where it is not)": a WORTH at x, just below it and just above it counts 0, 0, and what it is above. */
    private static void fairBarAtAWorth() {
        fairIs(10, 1, 5, 10, 1, 20, 1);
        fairIs(12, 1, 4, 10, 1, 20, 1);
        fairIs(9, 1, 6, 10, 1, 20, 1);
        fairIs(35, 4, 11, 10, 2, 20, 2, 30, 4, 0, 2);
        fairIs(10, 1, 10, 0, 1, 10, 1, 30, 2);
    }

    /** "of a PRICE 0 its greatest WORTH that has a WEIGHT". */
    private static void fairBarOfNoPrice() {
        fairIs(20, 1, 0, 10, 1, 20, 1);
        fairIs(20, 1, 0, 20, 1, 10, 1000);
        fairIs(10, 1, 0, 10, 1, 20, 0);
        fairIs(10, 1, 0, 20, 0, 1000, 0, 10, 1);
        fairIs(0, 1, 0, 0, 1);
        fairIs(0, 1, 0, 0, 1, 1000, 0);
        fairIs(1000, 1, 0, 1000, 1, 0, 1000);
    }

    private static void fairBarOfEightWorths() {
        int[] pairs = {8, 1, 16, 1, 24, 1, 32, 1, 40, 1, 48, 1, 56, 1, 64, 1};
        fairIs(64, 1, 0, pairs);
        fairIs(56, 1, 1, pairs);
        fairIs(52, 1, 2, pairs);
        fairIs(8, 1, 28, pairs);
        fairIs(7, 1, 29, pairs);
        fairIs(0, 1, 36, pairs);
        fairIs(-1, 1, 37, pairs);
    }

    private static void fairBarOfTheHighestPrice() {
        fairIs(-1000, 1, 1000, 0, 1);
        fairIs(0, 1, 1000, 1000, 1000);
        fairIs(-500, 1, 1000, 0, 1000, 1000, 1000);
        fairIs(999, 1, 1, 1000, 1000);
    }

    private static void searchWithoutBoxes() {
        ChooseOnce house = new ChooseOnce();
        house.letting(5, 2);
        house.search();
        Due.result("search without boxes", house, 0, 1);
    }

    /** "(0 without any)": no box need be opened, so SEARCH is never below 0. */
    private static void searchWithoutAnyOpened() {
        ChooseOnce house = new ChooseOnce();
        House.book(house, 5, 1);
        for (int i = 0; i < 6; i++) {
            house.letting(5, 2);
            house.box(0, 6 + i);
            house.search();
            Due.result("boxes too dear: " + (i + 1), house, 0, 1);
        }
    }

    private static void searchAtTheVeryPrice() {
        searchIs(1, 1, 4, 5, 1);
        searchIs(0, 1, 5, 5, 1);
        searchIs(0, 1, 6, 5, 1);
        searchIs(1, 2, 4, 9, 1, 0, 1);
        searchIs(0, 1, 1000, 1000, 1);
        searchIs(1000, 1, 0, 1000, 1);
    }

    private static void searchIs(long top, long bottom, int price, int... pairs) {
        ChooseOnce house = box(price, pairs);
        house.letting(5, 2);
        house.search();
        Due.result("search at " + price, house, top, bottom);
    }

    /** What is seen just below, at and above the FAIR BAR 10 of the other box, of which a half is above it. */
    private static void searchStopsAtTheFairBar() {
        seenAhead(9, 19, 2);
        seenAhead(10, 10, 1);
        seenAhead(11, 11, 1);
    }

    private static void seenAhead(int sure, long top, long bottom) {
        ChooseOnce house = new ChooseOnce();
        House.book(house, sure, 1);
        House.book(house, 0, 1, 20, 1);
        house.box(1, 5);
        house.box(0, 0);
        house.search();
        Due.result("a sure " + sure, house, top, bottom);
    }

    private static void searchOfSix() {
        ChooseOnce house = new ChooseOnce();
        House.book(house, 0, 1, 64, 1);
        for (int i = 0; i < 6; i++) {
            house.box(0, 16);
        }
        // Each opened one has 64 in a half of all ways, at 16: one goes on until it is seen.
        house.search();
        Due.result("six of a half", house, 32 * (64 - 1), 64);
    }

    /** Free boxes are all opened: SEARCH is the mean of the greatest of up to 48 different WORTHS. */
    private static void searchOfFortyEightWorths() {
        ChooseOnce house = new ChooseOnce();
        for (int i = 0; i < 6; i++) {
            int[] pairs = new int[16];
            for (int pair = 0; pair < 8; pair++) {
                pairs[2 * pair] = 6 * pair + i + 1;
                pairs[2 * pair + 1] = 1;
            }
            House.book(house, pairs);
            house.box(i, 0);
            house.comer(i);
        }
        house.foresight();
        String[] foresight = parts(house);
        house.letting(5, 2);
        house.search();
        String[] search = parts(house);
        Due.is("the greatest of 48 worths: top", foresight[0].equals(search[0]), true);
        Due.is("the greatest of 48 worths: bottom", foresight[1].equals(search[1]), true);
    }

    private static String[] parts(ChooseOnce house) {
        return new String[] {
            house.look(1) + ":" + house.part(false, 0) + "," + house.part(false, 1),
            house.look(2) + ":" + house.part(true, 0) + "," + house.part(true, 1)};
    }

    private static void searchOfFreeBoxes() {
        ChooseOnce house = new ChooseOnce();
        House.book(house, 0, 1);
        House.book(house, 0, 1, 1000, 1);
        house.box(0, 0);
        house.search();
        Due.result("a free box of 0", house, 0, 1);
        house.box(1, 0);
        house.box(1, 0);
        house.search();
        Due.result("two free boxes", house, 750, 1);
    }
}
