/** Promises 6 to 14. */
public final class ComersTest {
    private ComersTest() {
    }

    public static void main(String[] args) {
        coming();
        telling();
        rulesTold();
        bestRule();
        barsOfTies();
        barsNotComeTo();
        few();
        foresight();
        half();
        askingKeepsTheResult();
        greatest();
        Due.end();
    }

    private static void coming() {
        ChooseOnce house = new ChooseOnce();
        House.book(house, 4, 1);
        House.book(house, 9, 1);
        Due.is("book -1", house.comer(-1), -2);
        Due.is("book 2", house.comer(2), -2);
        for (int i = 0; i < 10; i++) {
            Due.is("comer " + i, house.comer(i % 2), i);
        }
        Due.is("comer 10", house.comer(0), -8);
        Due.is("no such book ahead of full", house.comer(2), -2);
        Due.is("ten comers", house.count(1), 10);
        Due.is("dismiss ten", house.dismiss(), 10);
        Due.is("dismiss none", house.dismiss(), 0);
        Due.is("no comers", house.count(1), 0);
        Due.is("books stay", house.count(0), 2);
        house.told();
        Due.result("no one: told", house, 0, 1);
        Due.is("from 0 on again", house.comer(1), 0);
        house.told();
        Due.result("the new one alone", house, 9, 1);
    }

    private static void telling() {
        ChooseOnce house = new ChooseOnce();
        House.book(house, 0, 1, 1000, 1);
        house.comer(0);
        house.comer(0);
        Due.is("bar 0", house.tell(0, 0), true);
        Due.is("bar 1001", house.tell(1, 1001), true);
        Due.is("bar 1002", house.tell(0, 1002), false);
        Due.is("bar -1", house.tell(0, -1), false);
        Due.is("comer -1", house.tell(-1, 5), false);
        Due.is("comer 2", house.tell(2, 5), false);
        house.told();
        Due.result("refused bars change nothing", house, 500, 1);
        house.tell(1, 0);
        house.tell(0, 1);
        house.told();
        Due.result("bar 1 says no to 0", house, 750, 1);
        house.tell(1, 1001);
        house.tell(0, 1000);
        house.told();
        Due.result("a bar at the worth says yes to it", house, 500, 1);
        house.tell(0, 1001);
        house.told();
        Due.result("no one is above 1000", house, 0, 1);
        house.dismiss();
        house.comer(0);
        Due.is("a comer of before", house.tell(1, 5), false);
        house.comer(0);
        house.told();
        Due.result("the bar of a new comer is 0, which takes 0", house, 500, 1);
    }

    private static void rulesTold() {
        ChooseOnce house = new ChooseOnce();
        House.book(house, 2, 1, 7, 2);
        House.book(house, 1, 3, 6, 1, 12, 1);
        house.comer(0);
        house.comer(1);
        house.told();
        Due.result("all bars 0: the first", house, 16, 3);
        house.tell(0, 3);
        house.told();
        Due.result("the second behind a no", house, 2 * 7 * 5 + 21, 15);
        house.tell(1, 7);
        house.told();
        Due.result("a bar for each", house, 2 * 7 * 5 + 12, 15);
        house.tell(0, 8);
        house.told();
        Due.result("the second alone", house, 12, 5);
        house.best();
        Due.result("the best rule is not that told", house, 2 * 7 * 5 + 21, 15);
        house.told();
        Due.result("the bars told stay", house, 12, 5);
    }

    private static void bestRule() {
        ChooseOnce house = new ChooseOnce();
        house.best();
        Due.result("without comers", house, 0, 1);
        House.book(house, 1, 1, 2, 1, 3, 1, 4, 1, 5, 1, 6, 1);
        house.comer(0);
        house.best();
        Due.result("one die", house, 7, 2);
        house.comer(0);
        house.best();
        Due.result("two dice", house, 17, 4);
        house.comer(0);
        house.best();
        Due.result("three dice", house, 14, 3);
        Due.is("bar of the first die", house.bar(0), 5);
        Due.is("bar of the second die", house.bar(1), 4);
        Due.is("bar of the last die", house.bar(2), 0);
        Due.is("bar 3", house.bar(3), ChooseOnce.NONE);
        Due.is("bar -1", house.bar(-1), ChooseOnce.NONE);
        Due.is("bar least", house.bar(Integer.MIN_VALUE), ChooseOnce.NONE);
    }

    private static void barsOfTies() {
        ChooseOnce house = new ChooseOnce();
        House.book(house, 4, 1, 5, 1, 6, 1);
        House.book(house, 0, 1, 10, 1);
        house.comer(0);
        house.comer(1);
        Due.is("a worth as good as a no is taken", house.bar(0), 5);
        house.dismiss();
        House.book(house, 5, 1);
        house.comer(2);
        house.comer(1);
        Due.is("as good as a no: the lowest bar of all", house.bar(0), 0);
        house.dismiss();
        House.book(house, 3, 0, 5, 1);
        house.comer(3);
        house.comer(1);
        Due.is("a worth without weight moves no bar", house.bar(0), 0);
        house.dismiss();
        House.book(house, 999, 1, 1000, 1);
        House.book(house, 1000, 1);
        house.comer(4);
        house.comer(5);
        Due.is("the highest bar", house.bar(0), 1000);
        Due.is("0 has 0 in any case", house.bar(1), 0);
        house.dismiss();
        House.book(house, 0, 1);
        house.comer(6);
        Due.is("a comer of 0 is taken", house.bar(0), 0);
    }

    private static void barsNotComeTo() {
        ChooseOnce house = new ChooseOnce();
        House.book(house, 1000, 1);
        House.book(house, 1, 1, 9, 1);
        house.comer(0);
        house.comer(1);
        house.comer(1);
        Due.is("the first is taken", house.bar(0), 0);
        Due.is("as if it were come to", house.bar(1), 2);
        house.best();
        Due.result("the first", house, 1000, 1);
    }

    private static void few() {
        ChooseOnce house = new ChooseOnce();
        Due.is("without comers", house.few(3), true);
        Due.result("without comers", house, 0, 1);
        House.book(house, 1, 1, 2, 1, 3, 1, 4, 1, 5, 1, 6, 1);
        house.comer(0);
        house.comer(0);
        house.comer(0);
        house.few(1);
        Due.result("one yes", house, 14, 3);
        Due.is("two", house.few(2), true);
        Due.result("two yeses", house, 49, 6);
        Due.is("three", house.few(3), true);
        Due.result("three yeses", house, 21, 2);
        Due.is("-1 yeses", house.few(-1), false);
        Due.is("11 yeses", house.few(11), false);
        Due.result("refused: the result stays", house, 21, 2);
        Due.is("ten", house.few(10), true);
        Due.result("ten yeses", house, 21, 2);
        Due.is("no bars of few", house.bar(0), 5);
        Due.is("none", house.few(0), true);
        Due.result("no yes", house, 0, 1);
        Due.is("no bars of no yes", house.bar(0), 5);
    }

    private static void foresight() {
        ChooseOnce house = new ChooseOnce();
        house.letting(2, 0);
        house.foresight();
        Due.result("without comers", house, 0, 1);
        House.book(house, 1, 1, 2, 1, 3, 1, 4, 1, 5, 1, 6, 1);
        house.comer(0);
        house.foresight();
        Due.result("one die", house, 7, 2);
        house.comer(0);
        house.foresight();
        Due.result("two dice", house, 161, 36);
        House.book(house, 0, 1, 100, 1);
        house.comer(1);
        house.foresight();
        Due.result("dice and a hundred", house, 3600 + 161, 72);
    }

    private static void half() {
        ChooseOnce house = new ChooseOnce();
        Due.is("without comers", house.half(), 0);
        House.book(house, 0, 99, 100, 1);
        House.book(house, 1, 1);
        house.comer(1);
        house.comer(0);
        house.foresight();
        Due.result("just below two", house, 199, 100);
        Due.is("the first is half of it", house.half(), 0);
        house.comer(0);
        Due.is("the first is too little", house.half(), 2);
        house.dismiss();
        House.book(house, 1, 1, 5, 0, 10, 3);
        House.book(house, 40, 1, 0, 3);
        house.comer(2);
        house.comer(3);
        house.foresight();
        Due.result("foresight", house, 253, 16);
        Due.is("a yes to all has 31 / 4, which is too little", house.half(), 2);
        house.dismiss();
        House.book(house, 3, 1);
        House.book(house, 0, 1, 6, 1);
        house.comer(4);
        house.comer(5);
        house.comer(5);
        house.foresight();
        Due.result("three or six", house, 21, 4);
        Due.is("three is at least half", house.half(), 0);
        house.dismiss();
        House.book(house, 2, 1);
        House.book(house, 4, 1);
        house.comer(6);
        house.comer(7);
        Due.is("just half is enough", house.half(), 0);
    }

    private static void askingKeepsTheResult() {
        ChooseOnce house = new ChooseOnce();
        House.book(house, 1, 1, 9, 2);
        house.comer(0);
        house.comer(0);
        house.letting(4, 1);
        house.bar(0);
        house.half();
        house.bar(7);
        house.comer(0);
        house.tell(0, 1);
        house.dismiss();
        Due.result("the result stays", house, 11, 24);
    }

    /** The longest fractions that ten comers can give. */
    private static void greatest() {
        ChooseOnce house = new ChooseOnce();
        House.book(house, 1000, 1000, 999, 999, 998, 1000, 997, 1000, 996, 1000, 995, 1000, 994, 1000, 993, 994);
        for (int i = 0; i < 10; i++) {
            house.comer(0);
        }
        Fraction mean = Fraction.ZERO;
        int[] worths = {1000, 999, 998, 997, 996, 995, 994, 993};
        int[] weights = {1000, 999, 1000, 1000, 1000, 1000, 1000, 994};
        for (int i = 0; i < 8; i++) {
            mean = mean.plus(Fraction.of((long) worths[i] * weights[i], 7993));
        }
        house.few(10);
        Due.result("ten yeses", house, mean.times(Fraction.of(10, 1)));
        Fraction best = Fraction.ZERO;
        for (int comer = 0; comer < 10; comer++) {
            Fraction next = Fraction.ZERO;
            for (int i = 0; i < 8; i++) {
                next = next.plus(best.max(Fraction.of(worths[i], 1)).times(Fraction.of(weights[i], 7993)));
            }
            best = next;
        }
        house.best();
        Due.result("best", house, best);
        Due.is("parts of the top", house.look(1), 5);
        Due.is("parts of the bottom", house.look(2), 5);
        for (int a = 100_000; a <= 1_000_000_000; a += a / 4) {
            Due.is("far above " + a, house.compare(a, Integer.MAX_VALUE), 1);
        }
    }
}
