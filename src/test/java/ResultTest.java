/** Promises 27 to 30, and the RESULT under refusals. */
public final class ResultTest {
    private ResultTest() {
    }

    public static void main(String[] args) {
        look();
        parts();
        compare();
        compareBelowZero();
        compareZero();
        counts();
        refusals();
        Due.end();
    }

    private static void look() {
        ChooseOnce house = new ChooseOnce();
        Due.is("0", house.look(0), 0);
        Due.is("parts of 0", house.look(1), 1);
        Due.is("parts of 1", house.look(2), 1);
        Due.is("3", house.look(3), ChooseOnce.NONE);
        Due.is("-1", house.look(-1), ChooseOnce.NONE);
        Due.is("least", house.look(Integer.MIN_VALUE), ChooseOnce.NONE);
        house.letting(5, 1);
        Due.is("above", house.look(0), 1);
        House.book(house, 3, 1);
        house.box(0, 5);
        house.fair(0);
        Due.is("below", house.look(0), -1);
        Due.is("parts of -2", house.look(1), 1);
        house.search();
        Due.is("0 again", house.look(0), 0);
    }

    private static void parts() {
        ChooseOnce house = new ChooseOnce();
        Due.is("top of 0", house.part(false, 0), 0);
        Due.is("bottom of 0", house.part(true, 0), 1);
        Due.is("part 1 of 1", house.part(true, 1), 0);
        House.book(house, 3, 1);
        house.box(0, 5);
        house.fair(0);
        Due.is("top of -2, without sign", house.part(false, 0), 2);
        // (99 / 100)^4 * 5 / 100, five together: 480298005 / 10^10, whose bottom has parts of 0.
        for (int i = 0; i < 5; i++) {
            house.happen(1, 100);
        }
        house.last();
        Due.is("parts of the top", house.look(1), 1);
        Due.is("parts of the bottom", house.look(2), 2);
        Due.is("top", house.part(false, 0), 96059601);
        Due.is("bottom, lowest", house.part(true, 0), 0);
        Due.is("bottom, next", house.part(true, 1), 2);
        Due.is("bottom, behind", house.part(true, 2), 0);
        Due.is("top, behind", house.part(false, 1), 0);
        Due.is("part -1", house.part(true, -1), 0);
        Due.is("part far off", house.part(true, Integer.MAX_VALUE), 0);
        Due.is("part far below", house.part(false, Integer.MIN_VALUE), 0);
        for (int i = 0; i < 12; i++) {
            Due.is("part " + (i + 2), house.part(true, i + 2), 0);
        }
    }

    private static void compare() {
        ChooseOnce house = new ChooseOnce();
        house.letting(5, 2);
        Due.is("13/30", house.compare(13, 30), 0);
        Due.is("26/60", house.compare(26, 60), 0);
        Due.is("14/30", house.compare(14, 30), -1);
        Due.is("12/30", house.compare(12, 30), 1);
        Due.is("0", house.compare(0, 1), 1);
        Due.is("-1", house.compare(-1, 1), 1);
        Due.is("b 0", house.compare(1, 0), -2);
        Due.is("b -1", house.compare(-13, -30), -2);
        Due.is("b least", house.compare(1, Integer.MIN_VALUE), -2);
        Due.is("greatest", house.compare(Integer.MAX_VALUE, 1), -1);
        Due.is("least", house.compare(Integer.MIN_VALUE, 1), 1);
        Due.is("just above", house.compare(930576246, 2147483645), 1);
        Due.is("just below", house.compare(930576247, 2147483645), -1);
        Due.result("the result stays", house, 13, 30);
    }

    private static void compareBelowZero() {
        ChooseOnce house = new ChooseOnce();
        House.book(house, 1, 1, 2, 1);
        house.box(0, 4);
        house.fair(0);
        Due.result("-5/2", house, -5, 2);
        Due.is("-5/2", house.compare(-5, 2), 0);
        Due.is("-10/4", house.compare(-10, 4), 0);
        Due.is("-3", house.compare(-3, 1), 1);
        Due.is("-2", house.compare(-2, 1), -1);
        Due.is("0", house.compare(0, 5), -1);
        Due.is("5/2", house.compare(5, 2), -1);
        Due.is("least", house.compare(Integer.MIN_VALUE, Integer.MAX_VALUE), -1);
        Due.is("least", house.compare(Integer.MIN_VALUE, 1), 1);
    }

    private static void compareZero() {
        ChooseOnce house = new ChooseOnce();
        Due.is("0", house.compare(0, 1), 0);
        Due.is("0/7", house.compare(0, 7), 0);
        Due.is("1/7", house.compare(1, 7), -1);
        Due.is("-1/7", house.compare(-1, 7), 1);
        Due.is("greatest bottom", house.compare(1, Integer.MAX_VALUE), -1);
    }

    private static void counts() {
        ChooseOnce house = new ChooseOnce();
        House.book(house, 1, 1);
        for (int i = 0; i < 2; i++) {
            house.comer(0);
        }
        for (int i = 0; i < 3; i++) {
            house.happen(1, 2);
        }
        for (int i = 0; i < 4; i++) {
            house.box(0, 1);
        }
        for (int i = 0; i < 5; i++) {
            house.row(2 * i, 0, i);
        }
        for (int what = 0; what <= 4; what++) {
            Due.is("count " + what, house.count(what), what + 1);
        }
        Due.is("count 5", house.count(5), ChooseOnce.NONE);
        Due.is("count -1", house.count(-1), ChooseOnce.NONE);
    }

    private static void refusals() {
        ChooseOnce house = new ChooseOnce();
        house.letting(3, 0);
        house.row(10, 0, 0);
        house.tear(3);
        house.write(3, 0, 0);
        house.book(3);
        house.comer(0);
        house.tell(0, 0);
        house.few(11);
        house.few(-1);
        house.letting(0, 0);
        house.pass(5);
        house.pay(1, 7);
        house.ranks(0);
        house.yes(3, 1, 1);
        house.happen(1, 0);
        house.last();
        house.box(0, 0);
        house.fair(0);
        house.compare(1, 0);
        house.compare(1, 1);
        house.look(9);
        house.part(false, 9);
        house.count(9);
        Due.result("no refused or asking call moves the result", house, 1, 3);
    }
}
