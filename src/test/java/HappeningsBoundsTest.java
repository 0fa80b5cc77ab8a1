/** Each sentence of 'Terms' 3 on HAPPENINGS and of promises 20 to 22 that names a boundary, by a method of its own. */
public final class HappeningsBoundsTest {
    private static final int MIN = Integer.MIN_VALUE;
    private static final int MAX = Integer.MAX_VALUE;
    private static final int NONE = ChooseOnce.NONE;

    private HappeningsBoundsTest() {
    }

    public static void main(String[] args) {
        allChancesAndNoOther();
        chancesFarOff();
        twentyHappenings();
        happenRefusalsInOrder();
        forgetOfNone();
        forgetOfTwenty();
        lastOfNone();
        lastOfNoneAnyMore();
        lastOfOne();
        lastOfSeveral();
        allThatCanNotHappen();
        allThatAreSure();
        noneBehindItHappens();
        lastOfTwenty();
        Due.end();
    }

    private static ChooseOnce happenings(int... chances) {
        ChooseOnce house = new ChooseOnce();
        for (int i = 0; i < chances.length; i += 2) {
            house.happen(chances[i], chances[i + 1]);
        }
        return house;
    }

    /** "-2: b is not 1 to 100, or a not 0 to b", around all of them. */
    private static void allChancesAndNoOther() {
        for (int b = -1; b <= 102; b++) {
            for (int a = -1; a <= 102; a++) {
                ChooseOnce house = new ChooseOnce();
                boolean told = 1 <= b && b <= 100 && 0 <= a && a <= b;
                Due.is("happen " + a + " " + b, house.happen(a, b), told ? 0 : -2);
                Due.is("count of happen " + a + " " + b, house.count(2), told ? 1 : 0);
                Due.is("last of happen " + a + " " + b, house.last(), told ? 0 : NONE);
                if (told) {
                    Due.result("its chance " + a + " " + b, house, a, b);
                }
            }
        }
    }

    private static void chancesFarOff() {
        ChooseOnce house = new ChooseOnce();
        Due.is("the least b", house.happen(0, MIN), -2);
        Due.is("the greatest b", house.happen(1, MAX), -2);
        Due.is("the least a", house.happen(MIN, 100), -2);
        Due.is("the greatest a", house.happen(MAX, 100), -2);
        Due.is("both the greatest", house.happen(MAX, MAX), -2);
        Due.is("both the least", house.happen(MIN, MIN), -2);
        Due.is("none yet", house.count(2), 0);
    }

    /** "its number (from 0 on)", "-8: there are 20". */
    private static void twentyHappenings() {
        ChooseOnce house = new ChooseOnce();
        for (int i = 0; i < 20; i++) {
            Due.is("happenings ahead of number " + i, house.count(2), i);
            Due.is("happen " + i, house.happen(0, 1), i);
        }
        Due.is("the 21st", house.happen(1, 1), -8);
        Due.is("twenty", house.count(2), 20);
        Due.is("the 21st is none", house.last(), 19);
        Due.result("the 21st is none", house, 0, 1);
    }

    /** -2 ahead of -8. */
    private static void happenRefusalsInOrder() {
        ChooseOnce house = new ChooseOnce();
        for (int i = 0; i < 20; i++) {
            house.happen(1, 2);
        }
        Due.is("b 0, twenty", house.happen(0, 0), -2);
        Due.is("b 101, twenty", house.happen(0, 101), -2);
        Due.is("a -1, twenty", house.happen(-1, 1), -2);
        Due.is("a above b, twenty", house.happen(2, 1), -2);
        Due.is("all right, twenty", house.happen(1, 1), -8);
    }

    /** "how many there were", of none. */
    private static void forgetOfNone() {
        ChooseOnce house = new ChooseOnce();
        Due.is("forget at first", house.forget(), 0);
        house.happen(1, 2);
        Due.is("forget one", house.forget(), 1);
        Due.is("forget again", house.forget(), 0);
    }

    /** "There are no HAPPENINGS any more", and twenty can come again. */
    private static void forgetOfTwenty() {
        ChooseOnce house = new ChooseOnce();
        for (int i = 0; i < 20; i++) {
            house.happen(1, 1);
        }
        Due.is("forget twenty", house.forget(), 20);
        Due.is("none", house.count(2), 0);
        Due.is("last of none", house.last(), NONE);
        for (int i = 0; i < 20; i++) {
            Due.is("again " + i, house.happen(0, 1), i);
        }
        Due.is("the 21st again", house.happen(0, 1), -8);
        house.last();
        Due.result("nothing is left of those forgotten", house, 0, 1);
    }

    /** "NONE, and the RESULT stays, if there is none". */
    private static void lastOfNone() {
        ChooseOnce house = new ChooseOnce();
        Due.is("last at first", house.last(), NONE);
        Due.result("the result stays 0", house, 0, 1);
        house.letting(5, 2);
        Due.is("last of none", house.last(), NONE);
        Due.result("the result stays", house, 13, 30);
    }

    private static void lastOfNoneAnyMore() {
        ChooseOnce house = happenings(1, 3);
        house.last();
        house.forget();
        Due.is("last of those forgotten", house.last(), NONE);
        Due.result("the result stays", house, 1, 3);
    }

    private static void lastOfOne() {
        int[][] chances = {{0, 1}, {1, 1}, {1, 100}, {99, 100}, {100, 100}, {0, 100}};
        for (int[] chance : chances) {
            ChooseOnce house = happenings(chance);
            house.letting(5, 2);
            Due.is("last of one", house.last(), 0);
            Due.result("its own chance", house, chance[0], chance[1]);
        }
    }

    /** "that is the last for which the chance to WIN is the greatest". */
    private static void lastOfSeveral() {
        Due.is("two halves are alike", happenings(1, 2, 1, 2).last(), 1);
        Due.is("one ahead that can not happen", happenings(0, 2, 1, 2).last(), 1);
        Due.is("one behind that can not happen", happenings(1, 2, 0, 2).last(), 0);
        Due.is("one between that can not happen", happenings(1, 3, 0, 2, 1, 3).last(), 0);
        Due.is("two ahead that can not happen", happenings(0, 2, 0, 2, 1, 3, 1, 3).last(), 2);
        Due.is("just less than a half behind", happenings(1, 2, 49, 100).last(), 0);
        Due.is("just more than a half behind", happenings(1, 2, 51, 100).last(), 1);
    }

    private static void allThatCanNotHappen() {
        ChooseOnce house = happenings(0, 1, 0, 100, 0, 7);
        house.letting(5, 2);
        Due.is("all alike: the last", house.last(), 2);
        Due.result("no chance", house, 0, 1);
    }

    private static void allThatAreSure() {
        ChooseOnce house = happenings(1, 1, 100, 100, 7, 7);
        Due.is("the last", house.last(), 2);
        Due.result("a sure one", house, 1, 1);
    }

    /** "WINS if none behind it happens": a sure one cuts off all ahead of it. */
    private static void noneBehindItHappens() {
        ChooseOnce house = happenings(1, 2, 1, 1, 1, 3, 1, 4);
        Due.is("the sure one and what is behind it", house.last(), 1);
        Due.result("none behind it", house, 1, 2);
        ChooseOnce behind = happenings(1, 1, 1, 4, 1, 4, 1, 4);
        Due.is("a sure one, as good as just one of three behind it", behind.last(), 1);
        Due.result("just one of three", behind, 27, 64);
    }

    private static void lastOfTwenty() {
        ChooseOnce house = new ChooseOnce();
        for (int i = 0; i < 20; i++) {
            house.happen(1, 20);
        }
        // From 1 on the odds are 19 / 19 together: 0 is as good, and 1 is the last of both.
        Due.is("twenty of a twentieth", house.last(), 1);
        Fraction win = Fraction.ONE;
        for (int i = 0; i < 19; i++) {
            win = win.times(Fraction.of(19, 20));
        }
        Due.result("twenty of a twentieth", house, win);
    }
}
