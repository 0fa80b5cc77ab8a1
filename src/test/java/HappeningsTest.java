/** Promises 20 to 22. */
public final class HappeningsTest {
    private HappeningsTest() {
    }

    public static void main(String[] args) {
        happening();
        forgetting();
        last();
        lastOfNone();
        longest();
        Due.end();
    }

    private static void happening() {
        ChooseOnce house = new ChooseOnce();
        Due.is("b 0", house.happen(0, 0), -2);
        Due.is("b -1", house.happen(-1, -1), -2);
        Due.is("b 101", house.happen(1, 101), -2);
        Due.is("a -1", house.happen(-1, 5), -2);
        Due.is("a above b", house.happen(6, 5), -2);
        Due.is("refused ones are none", house.count(2), 0);
        for (int i = 0; i < 20; i++) {
            Due.is("happen " + i, house.happen(i % 2 == 0 ? 100 : 0, 100), i);
        }
        Due.is("full", house.happen(1, 1), -8);
        Due.is("not as told ahead of full", house.happen(2, 1), -2);
        Due.is("20", house.count(2), 20);
    }

    private static void forgetting() {
        ChooseOnce house = new ChooseOnce();
        Due.is("none", house.forget(), 0);
        house.happen(1, 3);
        house.happen(1, 4);
        house.last();
        Due.is("two", house.forget(), 2);
        Due.is("none again", house.forget(), 0);
        Due.is("count", house.count(2), 0);
        Due.result("the result stays", house, 5, 12);
        Due.is("from 0 on", house.happen(1, 5), 0);
        Due.is("last", house.last(), 0);
        Due.result("the new one alone", house, 1, 5);
    }

    private static void last() {
        ChooseOnce house = new ChooseOnce();
        for (int i = 0; i < 6; i++) {
            house.happen(1, 6);
        }
        Due.is("six of a sixth: as good from 0 as from 1", house.last(), 1);
        Due.result("six of a sixth", house, 3125, 7776);
        house.forget();
        for (int i = 1; i <= 5; i++) {
            house.happen(1, i);
        }
        Due.is("the best so far of five", house.last(), 2);
        Due.result("the best so far of five", house, 13, 30);
        house.forget();
        house.happen(1, 1);
        house.happen(1, 1);
        house.happen(0, 9);
        house.happen(0, 9);
        Due.is("a sure one behind which none happens", house.last(), 1);
        Due.result("sure", house, 1, 1);
        house.forget();
        house.happen(0, 9);
        house.happen(0, 9);
        Due.is("none can happen: the last", house.last(), 1);
        Due.result("none can happen", house, 0, 1);
        house.forget();
        house.happen(1, 2);
        house.happen(0, 9);
        Due.is("not one that can not happen", house.last(), 0);
        Due.result("a half", house, 1, 2);
    }

    private static void lastOfNone() {
        ChooseOnce house = new ChooseOnce();
        house.letting(3, 0);
        Due.is("none", house.last(), ChooseOnce.NONE);
        Due.result("the result stays", house, 1, 3);
    }

    private static void longest() {
        ChooseOnce house = new ChooseOnce();
        Fraction quiet = Fraction.ONE;
        for (int i = 0; i < 20; i++) {
            house.happen(1, 97);
            quiet = i == 0 ? quiet : quiet.times(Fraction.of(96, 97));
        }
        Due.is("all of twenty", house.last(), 0);
        Due.result("all of twenty", house, quiet.times(Fraction.of(20, 97)));
        Due.is("parts of the bottom", house.look(2), 5);
    }
}
