/** Each sentence on the RESULT and of promises 27 to 30 that names a boundary, by a method of its own. */
public final class ResultBoundsTest {
    private static final int MIN = Integer.MIN_VALUE;
    private static final int MAX = Integer.MAX_VALUE;
    private static final int NONE = ChooseOnce.NONE;

    private ResultBoundsTest() {
    }

    public static void main(String[] args) {
        lowestTerms();
        bottomAboveZero();
        zeroIsOverOne();
        lookAtTheSign();
        lookAtAnother();
        partsOfZero();
        nineDigitsAndTen();
        partsWithoutSign();
        partsThatAreNot();
        longestTop();
        bottomsOfCompare();
        compareAroundTheResult();
        compareAroundZero();
        compareBelowZero();
        compareFarOff();
        compareChangesNothing();
        countsFromNoneToFull();
        countOfAnother();
        countsOfRowsTorn();
        Due.end();
    }

    private static ChooseOnce fair(int price, int... pairs) {
        ChooseOnce house = new ChooseOnce();
        House.book(house, pairs);
        house.box(0, price);
        house.fair(0);
        return house;
    }

    /** (10 / 11)^9, as a sure one is the last: both numbers have more than nine digits. */
    private static ChooseOnce thousandMillions() {
        ChooseOnce house = new ChooseOnce();
        house.happen(1, 1);
        for (int i = 0; i < 9; i++) {
            house.happen(1, 11);
        }
        house.last();
        return house;
    }

    /** "in lowest terms". */
    private static void lowestTerms() {
        ChooseOnce house = new ChooseOnce();
        house.happen(50, 100);
        house.last();
        Due.is("top of 50 / 100", house.part(false, 0), 1);
        Due.is("bottom of 50 / 100", house.part(true, 0), 2);
        house.forget();
        house.happen(100, 100);
        house.last();
        Due.is("top of 100 / 100", house.part(false, 0), 1);
        Due.is("bottom of 100 / 100", house.part(true, 0), 1);
        ChooseOnce below = fair(10, 0, 6, 5, 4);
        Due.is("top of -80 / 10", below.part(false, 0), 8);
        Due.is("bottom of -80 / 10", below.part(true, 0), 1);
        house.forget();
        // 97 / 98 of 98 / 99 of 99 / 100: each bottom is lost in a top of another one.
        house.happen(1, 1);
        house.happen(1, 98);
        house.happen(1, 99);
        house.happen(1, 100);
        house.last();
        Due.result("bottoms lost in other tops", house, 97, 100);
    }

    /** "its bottom above 0", also of what is below 0. */
    private static void bottomAboveZero() {
        ChooseOnce house = fair(3, 1, 1, 2, 1);
        Due.is("sign", house.look(0), -1);
        Due.is("top", house.part(false, 0), 3);
        Due.is("bottom", house.part(true, 0), 2);
    }

    /** What is 0 is 0 / 1, whatever it is 0 of. */
    private static void zeroIsOverOne() {
        ChooseOnce house = new ChooseOnce();
        house.letting(5, 2);
        house.happen(0, 100);
        house.last();
        Due.result("0 / 100", house, 0, 1);
        ChooseOnce box = fair(5, 10, 1, 0, 1);
        Due.result("(10 - 10) / 2", box, 0, 1);
        Due.is("its sign", box.look(0), 0);
        box.comer(0);
        box.letting(5, 2);
        box.few(0);
        Due.result("0 of 2", box, 0, 1);
    }

    /** "0 1, 0 or -1, as it is above 0, 0, below". */
    private static void lookAtTheSign() {
        Due.is("above", fair(4, 5, 1).look(0), 1);
        Due.is("0", fair(5, 5, 1).look(0), 0);
        Due.is("below", fair(6, 5, 1).look(0), -1);
        ChooseOnce house = fair(6, 5, 1);
        house.letting(5, 2);
        Due.is("above again", house.look(0), 1);
        house.search();
        Due.is("0 again", house.look(0), 0);
        house.fair(0);
        Due.is("below again", house.look(0), -1);
    }

    /** "NONE for another what". */
    private static void lookAtAnother() {
        ChooseOnce house = thousandMillions();
        Due.is("look -1", house.look(-1), NONE);
        Due.is("look 3", house.look(3), NONE);
        Due.is("look the least", house.look(MIN), NONE);
        Due.is("look the greatest", house.look(MAX), NONE);
    }

    /** "(without sign; 1 of 0)". */
    private static void partsOfZero() {
        ChooseOnce house = new ChooseOnce();
        Due.is("parts of 0", house.look(1), 1);
        Due.is("the one part of 0", house.part(false, 0), 0);
        ChooseOnce was = thousandMillions();
        was.search();
        Due.is("parts of 0 behind more", was.look(1), 1);
        Due.is("parts of 1 behind more", was.look(2), 1);
        Due.is("part 1 of 0 behind more", was.part(false, 1), 0);
        Due.is("part 1 of 1 behind more", was.part(true, 1), 0);
    }

    /** "parts of nine digits": 999999999 has one of them, 1000000000 two. */
    private static void nineDigitsAndTen() {
        ChooseOnce house = new ChooseOnce();
        House.book(house, 0, 1, 1, 999);
        for (int i = 0; i < 3; i++) {
            house.comer(0);
            house.tell(i, 1);
        }
        house.told();
        Due.is("parts of 999999999", house.look(1), 1);
        Due.is("999999999", house.part(false, 0), 999999999);
        Due.is("nothing above", house.part(false, 1), 0);
        Due.is("parts of 1000000000", house.look(2), 2);
        Due.is("1000000000, the lowest", house.part(true, 0), 0);
        Due.is("1000000000, the next", house.part(true, 1), 1);
        Due.is("nothing above", house.part(true, 2), 0);
        ChooseOnce top = thousandMillions();
        Due.is("parts of a top of 1000000000", top.look(1), 2);
        Due.is("its lowest", top.part(false, 0), 0);
        Due.is("its next", top.part(false, 1), 1);
        Due.is("parts of 2357947691", top.look(2), 2);
        Due.is("its lowest", top.part(true, 0), 357947691);
        Due.is("its next", top.part(true, 1), 2);
    }

    /** "of the top (without sign)". */
    private static void partsWithoutSign() {
        ChooseOnce house = fair(1000, 0, 1000);
        Due.is("parts of -1000", house.look(1), 1);
        Due.is("top of -1000", house.part(false, 0), 1000);
        Due.is("bottom of -1000", house.part(true, 0), 1);
    }

    /** "0 where there is none such". */
    private static void partsThatAreNot() {
        ChooseOnce house = thousandMillions();
        int[] none = {-1, 2, 3, 4, 5, 6, 7, 24, 1000, MIN, MAX};
        for (int i : none) {
            Due.is("part " + i + " of the top", house.part(false, i), 0);
            Due.is("part " + i + " of the bottom", house.part(true, i), 0);
        }
    }

    /** Forty digits and more: four parts behind the lowest, and a compare with the greatest a and b. */
    private static void longestTop() {
        ChooseOnce house = new ChooseOnce();
        House.book(house, 1000, 1000, 999, 1000, 998, 1000, 997, 1000, 996, 1000, 995, 1000, 994, 1000, 1, 999);
        for (int i = 0; i < 10; i++) {
            house.comer(0);
        }
        Fraction quiet = Fraction.ONE;
        for (int i = 0; i < 10; i++) {
            house.tell(i, 1000);
            quiet = quiet.times(Fraction.of(6999, 7999));
        }
        Fraction want = Fraction.ONE.minus(quiet).times(Fraction.of(1000, 1));
        house.told();
        Due.result("a yes to 1000 alone", house, want);
        Due.is("parts of its top", house.look(1), 5);
        Due.is("parts of its bottom", house.look(2), 5);
        for (int b = MAX; b > 0; b /= 5) {
            for (int a = MAX; a > 0; a /= 5) {
                Due.is("the longest and " + a + " / " + b, house.compare(a, b), want.compareTo(Fraction.of(a, b)));
            }
        }
    }

    /** "-2, if b is below 1". */
    private static void bottomsOfCompare() {
        ChooseOnce house = new ChooseOnce();
        house.letting(5, 2);
        Due.is("b 1", house.compare(0, 1), 1);
        Due.is("b 0", house.compare(0, 0), -2);
        Due.is("b -1", house.compare(0, -1), -2);
        Due.is("the least b", house.compare(13, MIN), -2);
        Due.is("the greatest b", house.compare(0, MAX), 1);
        Due.is("-13 / -30", house.compare(-13, -30), -2);
    }

    /** "above, just, or below a / b", which need not be in lowest terms. */
    private static void compareAroundTheResult() {
        ChooseOnce house = new ChooseOnce();
        house.letting(5, 2);
        Due.is("just", house.compare(13, 30), 0);
        Due.is("just, times 70000000", house.compare(910000000, 2100000000), 0);
        Due.is("above", house.compare(909999999, 2100000000), 1);
        Due.is("below", house.compare(910000001, 2100000000), -1);
    }

    private static void compareAroundZero() {
        ChooseOnce house = new ChooseOnce();
        Due.is("0 and 0 / 1", house.compare(0, 1), 0);
        Due.is("0 and 0 / the greatest", house.compare(0, MAX), 0);
        Due.is("0 and 1 / the greatest", house.compare(1, MAX), -1);
        Due.is("0 and -1 / the greatest", house.compare(-1, MAX), 1);
        Due.is("0 and the least", house.compare(MIN, 1), 1);
        Due.is("0 and the greatest", house.compare(MAX, 1), -1);
    }

    private static void compareBelowZero() {
        ChooseOnce house = fair(3, 1, 1, 2, 1);
        Due.is("-3 / 2, just", house.compare(-3, 2), 0);
        Due.is("-3 / 2, just, times a lot", house.compare(-2100000000, 1400000000), 0);
        Due.is("-3 / 2 is above", house.compare(-2100000001, 1400000000), 1);
        Due.is("-3 / 2 is below", house.compare(-2099999999, 1400000000), -1);
        Due.is("-3 / 2 is below 0", house.compare(0, 1), -1);
        Due.is("-3 / 2 is below 3 / 2", house.compare(3, 2), -1);
        Due.is("-3 / 2 is above the least", house.compare(MIN, 1), 1);
        Due.is("-3 / 2 is below the least / the greatest", house.compare(MIN, MAX), -1);
    }

    private static void compareFarOff() {
        ChooseOnce house = thousandMillions();
        Due.is("the greatest", house.compare(MAX, 1), -1);
        Due.is("the least", house.compare(MIN, 1), 1);
        Due.is("1", house.compare(MAX, MAX), -1);
        Due.is("the least / the greatest", house.compare(MIN, MAX), 1);
        Due.is("1 / the greatest", house.compare(1, MAX), 1);
    }

    private static void compareChangesNothing() {
        ChooseOnce house = new ChooseOnce();
        house.letting(5, 2);
        house.compare(MAX, MAX);
        house.compare(1, 0);
        house.compare(13, 30);
        Due.result("the result stays", house, 13, 30);
    }

    /** "0 BOOKS, 1 COMERS, 2 HAPPENINGS, 3 BOXES, 4 SLOTS that have a ROW". */
    private static void countsFromNoneToFull() {
        ChooseOnce house = new ChooseOnce();
        int[] most = {16, 10, 20, 6, 10};
        for (int slot = 0; slot < 10; slot++) {
            Due.is("slots", house.count(4), slot);
            House.row(house, slot, 0, 1, 1, 1);
        }
        for (int i = 0; i < 22; i++) {
            Due.is("books", house.count(0), Math.min(i, most[0]));
            house.book(0);
            Due.is("comers", house.count(1), Math.min(i, most[1]));
            house.comer(0);
            Due.is("happenings", house.count(2), Math.min(i, most[2]));
            house.happen(1, 2);
            Due.is("boxes", house.count(3), Math.min(i, most[3]));
            house.box(0, 1);
        }
        for (int what = 0; what <= 4; what++) {
            Due.is("count of a full house: " + what, house.count(what), most[what]);
        }
        house.dismiss();
        house.forget();
        house.empty();
        int[] left = {16, 0, 0, 0, 10};
        for (int what = 0; what <= 4; what++) {
            Due.is("count of what is left: " + what, house.count(what), left[what]);
        }
    }

    /** "NONE for another what". */
    private static void countOfAnother() {
        ChooseOnce house = new ChooseOnce();
        Due.is("count -1", house.count(-1), NONE);
        Due.is("count 5", house.count(5), NONE);
        Due.is("count the least", house.count(MIN), NONE);
        Due.is("count the greatest", house.count(MAX), NONE);
    }

    private static void countsOfRowsTorn() {
        ChooseOnce house = new ChooseOnce();
        house.row(0, 0, 0);
        house.row(9, 3, 40);
        Due.is("a row of no numbers counts", house.count(4), 2);
        house.row(9, 0, 0);
        Due.is("a row in place of another counts once", house.count(4), 2);
        house.tear(0);
        Due.is("a torn one does not", house.count(4), 1);
        house.tear(0);
        Due.is("torn twice", house.count(4), 1);
    }
}
