/** Promises 23 to 26. */
public final class BoxesTest {
    private BoxesTest() {
    }

    public static void main(String[] args) {
        boxes();
        emptying();
        fairBars();
        search();
        orderOfOpening();
        Due.end();
    }

    private static void boxes() {
        ChooseOnce house = new ChooseOnce();
        Due.is("no book", house.box(0, 1), -2);
        House.book(house, 10, 1);
        Due.is("book -1", house.box(-1, 1), -2);
        Due.is("book 1", house.box(1, 1), -2);
        Due.is("price -1", house.box(0, -1), -2);
        Due.is("price 1001", house.box(0, 1001), -2);
        Due.is("refused ones are none", house.count(3), 0);
        for (int i = 0; i < 6; i++) {
            Due.is("box " + i, house.box(0, i % 2 == 0 ? 0 : 1000), i);
        }
        Due.is("full", house.box(0, 1), -8);
        Due.is("no such book ahead of full", house.box(1, 1), -2);
        Due.is("no such price ahead of full", house.box(0, 1001), -2);
        Due.is("six", house.count(3), 6);
        Due.is("fair of the last", house.fair(5), true);
        Due.result("fair of the last", house, -990, 1);
        Due.is("fair 6", house.fair(6), false);
        Due.is("fair -1", house.fair(-1), false);
        Due.result("refused: the result stays", house, -990, 1);
    }

    private static void emptying() {
        ChooseOnce house = new ChooseOnce();
        Due.is("none", house.empty(), 0);
        House.book(house, 10, 1);
        house.box(0, 2);
        house.box(0, 3);
        house.search();
        Due.result("one is enough", house, 8, 1);
        Due.is("two", house.empty(), 2);
        Due.is("none again", house.empty(), 0);
        Due.is("count", house.count(3), 0);
        Due.result("the result stays", house, 8, 1);
        Due.is("fair of none", house.fair(0), false);
        house.search();
        Due.result("search of none", house, 0, 1);
        Due.is("from 0 on", house.box(0, 5), 0);
        house.search();
        Due.result("the new one alone", house, 5, 1);
    }

    private static void fairBars() {
        ChooseOnce house = new ChooseOnce();
        House.book(house, 0, 1, 10, 1, 30, 2, 50, 0);
        fair(house, 0, 0, 30, 1);
        fair(house, 0, 1, 28, 1);
        fair(house, 0, 10, 10, 1);
        fair(house, 0, 11, 26, 3);
        fair(house, 0, 17, 2, 3);
        fair(house, 0, 18, -1, 2);
        fair(house, 0, 1000, -3930, 4);
        House.book(house, 1, 1, 2, 1);
        fair(house, 1, 1, 1, 2);
        fair(house, 1, 2, -1, 2);
        House.book(house, 0, 7);
        fair(house, 2, 0, 0, 1);
        fair(house, 2, 3, -3, 1);
        House.book(house, 10, 5);
        fair(house, 3, 10, 0, 1);
        House.book(house, 1000, 1000, 999, 1000, 998, 1000, 997, 1000, 996, 1000, 995, 1000, 994, 1000, 993, 1000);
        fair(house, 4, 3, 6955, 7);
        fair(house, 4, 1000, -7, 2);
        fair(house, 4, 2, 5969, 6);
    }

    private static void fair(ChooseOnce house, int book, int price, long top, long bottom) {
        house.empty();
        house.box(book, price);
        Due.is("fair", house.fair(0), true);
        Due.result("fair bar of book " + book + " at " + price, house, top, bottom);
    }

    private static void search() {
        ChooseOnce house = new ChooseOnce();
        house.letting(2, 0);
        house.search();
        Due.result("without boxes", house, 0, 1);
        House.book(house, 0, 1, 100, 1);
        house.box(0, 50);
        house.search();
        Due.result("just its price", house, 0, 1);
        house.empty();
        house.box(0, 51);
        house.search();
        Due.result("too dear", house, 0, 1);
        house.box(0, 49);
        house.search();
        Due.result("the other one", house, 1, 1);
        house.box(0, 0);
        house.search();
        Due.result("a free one", house, 101, 2);
    }

    /** The sure one is better at first sight, and yet the other is opened ahead of it. */
    private static void orderOfOpening() {
        ChooseOnce house = new ChooseOnce();
        House.book(house, 100, 1, 55, 1);
        House.book(house, 240, 1, 0, 4);
        house.box(0, 15);
        house.box(1, 20);
        house.fair(0);
        Due.result("fair bar of the first", house, 70, 1);
        house.fair(1);
        Due.result("fair bar of the second", house, 140, 1);
        house.search();
        Due.result("the known pair", house, 78, 1);
        house.empty();
        house.box(1, 20);
        house.box(0, 15);
        house.search();
        Due.result("told in the other order", house, 78, 1);
    }
}
