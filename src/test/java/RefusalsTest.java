import java.util.ArrayList;
import java.util.List;

/**
 * "Each call that is refused gives the first of the refusals told of it, and changes nothing (the RESULT
 * stays). All memory is the house's own." Each refused call is made on one of two houses that were made
 * alike, and then both are asked all that can be asked of a house.
 */
public final class RefusalsTest {
    private static final int MIN = Integer.MIN_VALUE;
    private static final int MAX = Integer.MAX_VALUE;
    private static final int NO = 0;
    private static final int NONE = ChooseOnce.NONE;

    private interface Call {
        int on(ChooseOnce house);
    }

    private interface Maker {
        ChooseOnce make();
    }

    private record Refused(String name, int answer, Call call) {
    }

    private RefusalsTest() {
    }

    public static void main(String[] args) {
        housesAreApart();
        refuse("a house with nothing", RefusalsTest::houseWithNothing, refusedByAll(), refusedByHouseWithNothing());
        refuse("a house with some", RefusalsTest::houseWithSome, refusedByAll(), refusedByHouseWithSome());
        refuse("a full house", RefusalsTest::fullHouse, refusedByAll(), refusedByFull());
        keepTheResult();
        Due.end();
    }

    private static void refuse(String where, Maker maker, List<Refused> first, List<Refused> more) {
        List<Refused> all = new ArrayList<>(first);
        all.addAll(more);
        for (Refused refused : all) {
            String what = where + ": " + refused.name;
            ChooseOnce once = maker.make();
            String result = resultOf(once);
            Due.is(what, refused.call.on(once), refused.answer);
            Due.is(what + ": the result stays", resultOf(once).equals(result), true);
            // Not all questions fit the 512 calls of one house.
            for (int question = 0; question < 4; question++) {
                ChooseOnce house = maker.make();
                refused.call.on(house);
                ChooseOnce twin = maker.make();
                String got = ask(house, question);
                String want = ask(twin, question);
                if (!got.equals(want)) {
                    System.out.println(got + "\n" + want);
                }
                Due.is(what + ": nothing changes, question " + question, got.equals(want), true);
            }
        }
    }

    // Houses

    private static ChooseOnce houseWithNothing() {
        ChooseOnce house = new ChooseOnce();
        house.letting(5, 2);
        return house;
    }

    /** Slot 0 has a good row, 1 has nothing, 2 to 8 have faulty ones, 9 has one of no numbers. */
    private static ChooseOnce houseWithSome() {
        ChooseOnce house = new ChooseOnce();
        House.row(house, 0, 1, 2, 1000, 3, 10, 1);
        house.book(0);
        House.row(house, 2, 0, 1, 5, 1);
        house.book(2);
        house.write(2, 2, 0);
        House.row(house, 3, 3, 9, 1, 1);
        House.row(house, 4, 3, 2, 1001);
        House.row(house, 5, 3, 2, 5, 1);
        House.row(house, 6, 3, 1, 5, 1001);
        House.row(house, 7, 3, 2, 5, 0, 6);
        House.row(house, 8, 0, 1, 128, 1);
        house.row(9, 2, 0);
        house.comer(0);
        house.comer(1);
        house.tell(0, 500);
        house.tell(1, 6);
        house.happen(1, 3);
        house.happen(1, 7);
        house.box(1, 9);
        house.box(0, 40);
        house.pay(1, 1000);
        house.pay(20, 6);
        house.fair(0);
        return house;
    }

    /** All slots but 9 have rows, and there is no more room for anything. */
    private static ChooseOnce fullHouse() {
        ChooseOnce house = new ChooseOnce();
        House.row(house, 0, 1, 2, 7, 500, 900, 499);
        for (int i = 0; i < 16; i++) {
            house.write(0, 3, 900 - i);
            house.book(0);
        }
        for (int slot = 1; slot <= 8; slot++) {
            house.row(slot, slot % 4, 5 * slot);
        }
        for (int i = 0; i < 10; i++) {
            house.comer(i);
            house.tell(i, 899 - i);
        }
        for (int i = 0; i < 20; i++) {
            house.happen(i, 80 + i);
            house.pay(i + 1, 1000 - 47 * i);
        }
        for (int i = 0; i < 6; i++) {
            house.box(i + 10, 100 * i);
        }
        house.told();
        return house;
    }

    // Refused calls

    private static void add(List<Refused> all, String name, int answer, Call call) {
        all.add(new Refused(name, answer, call));
    }

    private static int word(boolean answer) {
        return answer ? 1 : NO;
    }

    private static List<Refused> refusedByAll() {
        List<Refused> all = new ArrayList<>();
        rowsRefused(all);
        for (int slot : new int[] {-1, 10, MIN, MAX}) {
            add(all, "tear " + slot, NO, house -> word(house.tear(slot)));
            add(all, "write " + slot, -2, house -> house.write(slot, 0, 1));
            add(all, "write no number of " + slot, -2, house -> house.write(slot, -1, 1));
            add(all, "book " + slot, -2, house -> house.book(slot));
        }
        for (int book : new int[] {-1, 16, MIN, MAX}) {
            add(all, "comer " + book, -2, house -> house.comer(book));
            add(all, "box " + book, -2, house -> house.box(book, 5));
            add(all, "box at no price " + book, -2, house -> house.box(book, -1));
        }
        for (int price : new int[] {-1, 1001, MIN, MAX}) {
            add(all, "box at " + price, -2, house -> house.box(0, price));
            add(all, "pay " + price, NO, house -> word(house.pay(1, price)));
        }
        for (int comer : new int[] {-1, 10, MIN, MAX}) {
            add(all, "tell " + comer, NO, house -> word(house.tell(comer, 5)));
            add(all, "bar " + comer, NONE, house -> house.bar(comer));
        }
        for (int bar : new int[] {-1, 1002, MIN, MAX}) {
            add(all, "tell bar " + bar, NO, house -> word(house.tell(0, bar)));
        }
        ranksRefused(all);
        happeningsRefused(all);
        resultsRefused(all);
        return all;
    }

    private static void rowsRefused(List<Refused> all) {
        for (int slot : new int[] {-1, 10, MIN, MAX}) {
            add(all, "row " + slot, -2, house -> house.row(slot, 0, 1));
            add(all, "row of -1 in " + slot, -2, house -> house.row(slot, 0, -1));
        }
        for (int width : new int[] {-1, 4, MIN, MAX}) {
            add(all, "row of width " + width, -2, house -> house.row(0, width, 1));
            add(all, "row of -1 of width " + width, -2, house -> house.row(0, width, -1));
        }
        for (int n : new int[] {41, MAX}) {
            add(all, "row of " + n, -2, house -> house.row(0, 0, n));
        }
        for (int n : new int[] {-1, MIN}) {
            add(all, "row of " + n, -3, house -> house.row(0, 0, n));
        }
    }

    private static void ranksRefused(List<Refused> all) {
        for (int k : new int[] {-1, 11, MIN, MAX}) {
            add(all, "few " + k, NO, house -> word(house.few(k)));
        }
        for (int n : new int[] {-1, 0, 61, MIN, MAX}) {
            add(all, "letting of " + n, NO, house -> word(house.letting(n, 0)));
            add(all, "pass " + n, NONE, house -> house.pass(n));
        }
        for (int r : new int[] {-1, 60, MIN, MAX}) {
            add(all, "letting " + r, NO, house -> word(house.letting(60, r)));
        }
        for (int n : new int[] {-1, 0, 21, MIN, MAX}) {
            add(all, "pay of " + n, NO, house -> word(house.pay(n, 5)));
            add(all, "ranks " + n, NO, house -> word(house.ranks(n)));
            add(all, "yes of " + n, NONE, house -> house.yes(n, 1, 1));
            add(all, "yes to " + n, NONE, house -> house.yes(20, n, 1));
            add(all, "yes if " + n, NONE, house -> house.yes(20, 20, n));
        }
    }

    private static void happeningsRefused(List<Refused> all) {
        for (int b : new int[] {-1, 0, 101, MIN, MAX}) {
            add(all, "happen of " + b, -2, house -> house.happen(0, b));
        }
        for (int a : new int[] {-1, 6, MIN, MAX}) {
            add(all, "happen " + a, -2, house -> house.happen(a, 5));
        }
        for (int box : new int[] {-1, 6, MIN, MAX}) {
            add(all, "fair " + box, NO, house -> word(house.fair(box)));
        }
    }

    private static void resultsRefused(List<Refused> all) {
        for (int what : new int[] {-1, 5, MIN, MAX}) {
            add(all, "look " + what, NONE, house -> house.look(what));
            add(all, "count " + what, NONE, house -> house.count(what));
            add(all, "part " + what, 0, house -> house.part(false, what));
            add(all, "bottom part " + what, 0, house -> house.part(true, what));
        }
        add(all, "look 3", NONE, house -> house.look(3));
        for (int b : new int[] {0, -1, MIN}) {
            add(all, "compare with " + b, -2, house -> house.compare(1, b));
        }
    }

    private static List<Refused> refusedByHouseWithNothing() {
        List<Refused> all = new ArrayList<>();
        for (int slot = 0; slot <= 9; slot++) {
            int at = slot;
            add(all, "tear " + slot, NO, house -> word(house.tear(at)));
            add(all, "write " + slot, -5, house -> house.write(at, 0, 1));
            add(all, "write no number of " + slot, -5, house -> house.write(at, -1, 1));
            add(all, "book " + slot, -5, house -> house.book(at));
        }
        add(all, "comer", -2, house -> house.comer(0));
        add(all, "box", -2, house -> house.box(0, 0));
        add(all, "tell", NO, house -> word(house.tell(0, 0)));
        add(all, "bar", NONE, house -> house.bar(0));
        add(all, "fair", NO, house -> word(house.fair(0)));
        add(all, "last", NONE, ChooseOnce::last);
        return all;
    }

    private static List<Refused> refusedByHouseWithSome() {
        List<Refused> all = new ArrayList<>();
        add(all, "tear nothing", NO, house -> word(house.tear(1)));
        add(all, "write to nothing", -5, house -> house.write(1, 0, 1));
        add(all, "write no number to nothing", -5, house -> house.write(1, 40, 1));
        add(all, "write number -1", -6, house -> house.write(0, -1, 1));
        add(all, "write number 5 of 5", -6, house -> house.write(0, 5, 1));
        add(all, "write number 0 of none", -6, house -> house.write(9, 0, 1));
        add(all, "book of nothing", -5, house -> house.book(1));
        add(all, "book of weights 0 together", -4, house -> house.book(2));
        add(all, "book of nine pairs", -4, house -> house.book(3));
        add(all, "book of a worth too great", -4, house -> house.book(4));
        add(all, "book of a row that ends at a worth", -6, house -> house.book(5));
        add(all, "book of a weight too great", -4, house -> house.book(6));
        add(all, "book of a row that ends at a weight", -6, house -> house.book(7));
        add(all, "book of a worth cut to below 0", -4, house -> house.book(8));
        add(all, "book of no numbers", -6, house -> house.book(9));
        add(all, "comer of no book", -2, house -> house.comer(2));
        add(all, "box of no book", -2, house -> house.box(2, 5));
        add(all, "tell no comer", NO, house -> word(house.tell(2, 5)));
        add(all, "bar of no comer", NONE, house -> house.bar(2));
        add(all, "fair of no box", NO, house -> word(house.fair(2)));
        return all;
    }

    private static List<Refused> refusedByFull() {
        List<Refused> all = new ArrayList<>();
        add(all, "a book more", -8, house -> house.book(0));
        add(all, "a book more of a row of 0", -8, house -> house.book(8));
        add(all, "a book more of nothing", -8, house -> house.book(9));
        add(all, "a book more of no slot", -2, house -> house.book(10));
        add(all, "a comer more", -8, house -> house.comer(0));
        add(all, "a comer more of the last book", -8, house -> house.comer(15));
        add(all, "a happening more", -8, house -> house.happen(1, 2));
        add(all, "a sure happening more", -8, house -> house.happen(100, 100));
        add(all, "a box more", -8, house -> house.box(0, 0));
        add(all, "a dear box more of the last book", -8, house -> house.box(15, 1000));
        add(all, "a number behind 40", -6, house -> house.write(8, 40, 1));
        add(all, "tear nothing", NO, house -> word(house.tear(9)));
        return all;
    }

    // Questions

    private static String resultOf(ChooseOnce house) {
        StringBuilder text = new StringBuilder();
        text.append(house.look(0)).append('*');
        for (int i = 0; i < 6; i++) {
            text.append(house.part(false, i)).append('.').append(house.part(true, i)).append(' ');
        }
        return text.append(house.look(1)).append('/').append(house.look(2)).append('\n').toString();
    }

    private static String ask(ChooseOnce house, int question) {
        StringBuilder text = new StringBuilder();
        text.append(resultOf(house));
        for (int what = 0; what <= 4; what++) {
            text.append(house.count(what)).append(' ');
        }
        switch (question) {
            case 0:
                askOfComers(house, text);
                break;
            case 1:
                askOfRanks(house, text);
                break;
            case 2:
                askOfHappeningsAndBoxes(house, text);
                break;
            default:
                askOfRows(house, text);
                break;
        }
        return text.toString();
    }

    private static void askOfComers(ChooseOnce house, StringBuilder text) {
        for (int comer = 0; comer < 10; comer++) {
            text.append(house.bar(comer)).append(' ');
        }
        text.append(house.half());
        house.told();
        text.append(resultOf(house));
        house.best();
        text.append(resultOf(house));
        house.few(4);
        text.append(resultOf(house));
        house.foresight();
        text.append(resultOf(house));
    }

    private static void askOfRanks(ChooseOnce house, StringBuilder text) {
        for (int n = 1; n <= 6; n++) {
            house.ranks(n);
            text.append(resultOf(house));
        }
        for (int s = 1; s <= 5; s++) {
            text.append(house.yes(9, 5, s));
        }
        house.ranks(20);
        text.append(resultOf(house));
    }

    private static void askOfHappeningsAndBoxes(ChooseOnce house, StringBuilder text) {
        text.append(house.last());
        text.append(resultOf(house));
        for (int box = 0; box < 6; box++) {
            text.append(house.fair(box));
            text.append(resultOf(house));
        }
        house.search();
        text.append(resultOf(house));
    }

    /** A number of a row shows in the books that can still be made of it, its length in where it ends. */
    private static void askOfRows(ChooseOnce house, StringBuilder text) {
        for (int slot = 0; slot <= 9; slot++) {
            int book = house.book(slot);
            text.append(book).append(' ');
            if (book >= 0) {
                house.dismiss();
                house.comer(book);
                house.foresight();
                text.append(resultOf(house));
            }
            for (int i = 0; i <= 40; i += i < 6 ? 1 : 5) {
                text.append(house.write(slot, i, 1)).append(' ');
            }
            text.append(house.tear(slot)).append('\n');
        }
    }

    // The RESULT, and houses apart

    /** Calls that are not told to give a RESULT leave it, also when they are not refused. */
    private static void keepTheResult() {
        List<Call> calls = List.of(house -> house.row(9, 3, 40), house -> house.write(0, 0, 1),
            house -> house.book(0), house -> word(house.tear(0)), house -> house.comer(1),
            house -> word(house.tell(2, 7)), house -> house.bar(2), ChooseOnce::half, ChooseOnce::dismiss,
            house -> house.pass(9), house -> word(house.pay(2, 9)), house -> house.yes(9, 3, 1),
            house -> house.happen(1, 9), ChooseOnce::forget, house -> house.box(1, 3), ChooseOnce::empty,
            house -> house.look(0), house -> house.part(true, 0), house -> house.compare(1, 2),
            house -> house.count(0));
        ChooseOnce house = houseWithSome();
        Due.result("the result to be kept", house, -4, 1);
        for (int i = 0; i < calls.size(); i++) {
            int answer = calls.get(i).on(house);
            Due.is("call " + i + " is taken", answer >= -1, true);
            Due.result("call " + i + " keeps the result", house, -4, 1);
        }
    }

    /** "All memory is the house's own": what is told to one house is not known to another. */
    private static void housesAreApart() {
        for (int question = 0; question < 4; question++) {
            String newAlone = ask(new ChooseOnce(), question);
            String someAlone = ask(houseWithSome(), question);
            ChooseOnce unused = new ChooseOnce();
            ChooseOnce some = houseWithSome();
            ChooseOnce full = fullHouse();
            ask(full, question);
            full.dismiss();
            full.forget();
            full.empty();
            Due.is("a house beside another", ask(some, question).equals(someAlone), true);
            Due.is("an unused house beside others", ask(unused, question).equals(newAlone), true);
            Due.is("a new house behind others", ask(new ChooseOnce(), question).equals(newAlone), true);
        }
    }
}
