/** Promises 1 to 5, and count() of rows and books. */
public final class RowsAndBooksTest {
    private RowsAndBooksTest() {
    }

    public static void main(String[] args) {
        newHouse();
        rows();
        tearing();
        writing();
        widths();
        books();
        booksRefused();
        booksFull();
        booksStay();
        Due.end();
    }

    private static void newHouse() {
        ChooseOnce house = new ChooseOnce();
        for (int what = 0; what <= 4; what++) {
            Due.is("new: count " + what, house.count(what), 0);
        }
        Due.result("new: result", house, 0, 1);
        for (int slot = 0; slot < 10; slot++) {
            Due.is("new: tear " + slot, house.tear(slot), false);
            Due.is("new: write " + slot, house.write(slot, 0, 0), -5);
            Due.is("new: book " + slot, house.book(slot), -5);
        }
        Due.is("new: comer", house.comer(0), -2);
        Due.is("new: box", house.box(0, 0), -2);
        Due.is("new: fair", house.fair(0), false);
        Due.is("new: tell", house.tell(0, 0), false);
        Due.is("new: bar", house.bar(0), ChooseOnce.NONE);
        Due.is("new: last", house.last(), ChooseOnce.NONE);
        Due.is("new: dismiss", house.dismiss(), 0);
        Due.is("new: forget", house.forget(), 0);
        Due.is("new: empty", house.empty(), 0);
        for (int n = 1; n <= 20; n++) {
            house.letting(1, 0);
            house.ranks(n);
            Due.result("new: ranks " + n, house, 0, 1);
        }
    }

    private static void rows() {
        ChooseOnce house = new ChooseOnce();
        Due.is("row of 40", house.row(0, 0, 40), 0);
        Due.is("row of none", house.row(9, 3, 0), 0);
        Due.is("two rows", house.count(4), 2);
        Due.is("row in place of another", house.row(0, 1, 3), 0);
        Due.is("still two rows", house.count(4), 2);
        Due.is("slot -1", house.row(-1, 0, 1), -2);
        Due.is("slot 10", house.row(10, 0, 1), -2);
        Due.is("width -1", house.row(1, -1, 1), -2);
        Due.is("width 4", house.row(1, 4, 1), -2);
        Due.is("41 numbers", house.row(1, 0, 41), -2);
        Due.is("most numbers", house.row(1, 0, Integer.MAX_VALUE), -2);
        Due.is("-1 numbers", house.row(1, 0, -1), -3);
        Due.is("least numbers", house.row(1, 0, Integer.MIN_VALUE), -3);
        Due.is("slot ahead of numbers", house.row(10, 0, -1), -2);
        Due.is("width ahead of numbers", house.row(0, 4, -1), -2);
        Due.is("refused rows are none", house.count(4), 2);

        ChooseOnce other = new ChooseOnce();
        House.row(other, 0, 0, 1, 5, 1);
        Due.is("refused over a row", other.row(0, 0, 41), -2);
        Due.is("refused over a row", other.row(0, 0, -1), -3);
        Due.is("the row is still there", other.book(0), 0);
        other.row(0, 0, 3);
        Due.is("a new row is all 0: no pairs", other.book(0), -4);
        for (int width = 0; width <= 3; width++) {
            House.row(other, 0, width, 7, 7, 7, 7, 7);
            other.row(0, width, 5);
            other.write(0, 0, 2);
            other.write(0, 2, 1);
            Due.is("a new row is all 0: a worth and a pair of 0", other.book(0), width + 1);
            other.dismiss();
            other.comer(width + 1);
            other.few(1);
            Due.result("a new row is all 0", other, 0, 1);
        }
    }

    private static void tearing() {
        ChooseOnce house = new ChooseOnce();
        house.row(0, 0, 0);
        house.row(9, 0, 4);
        Due.is("tear an empty row", house.tear(0), true);
        Due.is("tear twice", house.tear(0), false);
        Due.is("tear the last slot", house.tear(9), true);
        Due.is("tear slot -1", house.tear(-1), false);
        Due.is("tear slot 10", house.tear(10), false);
        Due.is("nothing left", house.count(4), 0);
        Due.is("write to torn", house.write(9, 0, 1), -5);
        Due.is("book of torn", house.book(9), -5);
    }

    private static void writing() {
        ChooseOnce house = new ChooseOnce();
        house.row(0, 0, 40);
        house.row(1, 0, 0);
        Due.is("first", house.write(0, 0, 1), 0);
        Due.is("last", house.write(0, 39, 1), 0);
        Due.is("number 40", house.write(0, 40, 1), -6);
        Due.is("number -1", house.write(0, -1, 1), -6);
        Due.is("number far off", house.write(0, Integer.MAX_VALUE, 1), -6);
        Due.is("number far below", house.write(0, Integer.MIN_VALUE, 1), -6);
        Due.is("of an empty row", house.write(1, 0, 1), -6);
        Due.is("of no row", house.write(2, 50, 1), -5);
        Due.is("slot -1", house.write(-1, 0, 1), -2);
        Due.is("slot 10", house.write(10, 50, 1), -2);
        house.row(0, 0, 2);
        Due.is("behind a shorter row", house.write(0, 2, 1), -6);
    }

    /** What a number is after it was cut shows in the book that is made of it. */
    private static void widths() {
        bookOfWorth("byte 127", 0, 127, 127);
        bookOfWorth("byte 128 is below 0", 0, 128, -1);
        bookOfWorth("byte 255 is -1", 0, 255, -1);
        bookOfWorth("byte 256 + 7", 0, 263, 7);
        bookOfWorth("byte 1000 is -24", 0, 1000, -1);
        bookOfWorth("short 1000", 1, 1000, 1000);
        bookOfWorth("short 65536 + 7", 1, 65543, 7);
        bookOfWorth("short 65535 is -1", 1, 65535, -1);
        bookOfWorth("int 65536 + 7", 2, 65543, -1);
        bookOfWorth("int 2^32 + 7", 2, (1L << 32) + 7, 7);
        bookOfWorth("long 2^32 + 7", 3, (1L << 32) + 7, -1);
        bookOfWorth("long 1000", 3, 1000, 1000);
        bookOfWorth("long least", 3, Long.MIN_VALUE, -1);
        bookOfWorth("int of long least", 2, Long.MIN_VALUE, 0);
    }

    private static void bookOfWorth(String what, int width, long written, int worth) {
        ChooseOnce house = new ChooseOnce();
        House.row(house, 3, width, 1, written, 1);
        Due.is(what, house.book(3), worth < 0 ? -4 : 0);
        if (worth >= 0) {
            house.comer(0);
            house.best();
            Due.result(what, house, worth, 1);
        }
    }

    private static void books() {
        ChooseOnce house = new ChooseOnce();
        House.row(house, 0, 1, 1, 1000, 1000, 77, 88, 99);
        Due.is("book of one pair, more behind", house.book(0), 0);
        House.row(house, 1, 1, 8, 1, 1, 2, 1, 3, 1, 4, 1, 5, 1, 6, 1, 7, 1, 8, 1);
        Due.is("book of eight pairs", house.book(1), 1);
        Due.is("the same row again", house.book(1), 2);
        Due.is("books", house.count(0), 3);
        House.row(house, 2, 1, 4, 30, 2, 10, 0, 5, 1, 30, 3);
        Due.is("book out of order, of one worth twice, of no weight", house.book(2), 3);
        house.comer(3);
        house.foresight();
        Due.result("its mean", house, 155, 6);
        house.comer(3);
        Due.is("a bar just above its lesser worth", house.bar(0), 6);
        house.tell(0, 30);
        house.tell(1, 1001);
        house.told();
        Due.result("weights of one worth together", house, 25, 1);
    }

    private static void booksRefused() {
        ChooseOnce house = new ChooseOnce();
        Due.is("slot -1", house.book(-1), -2);
        Due.is("slot 10", house.book(10), -2);
        Due.is("nothing", house.book(0), -5);
        refused(house, "empty row", -6);
        refused(house, "no pairs", -4, 0, 1, 1);
        refused(house, "nine pairs", -4, 9, 1, 1);
        refused(house, "below no pairs", -4, -1, 1, 1);
        refused(house, "many pairs", -4, (1L << 32) + 1, 1, 1);
        refused(house, "a count alone", -6, 1);
        refused(house, "a worth alone", -6, 1, 5);
        refused(house, "the second pair cut", -6, 2, 5, 1, 6);
        refused(house, "the second pair none", -6, 2, 5, 1);
        refused(house, "the eighth weight none", -6, 8, 1, 1, 2, 1, 3, 1, 4, 1, 5, 1, 6, 1, 7, 1, 8);
        refused(house, "worth 1001", -4, 1, 1001, 1);
        refused(house, "worth -1", -4, 1, -1, 1);
        refused(house, "weight 1001", -4, 1, 1, 1001);
        refused(house, "weight -1", -4, 1, 1, -1);
        refused(house, "weights 0 together", -4, 2, 1, 0, 2, 0);
        refused(house, "a wrong worth ahead of the end", -4, 2, 1001);
        refused(house, "a wrong weight ahead of the end", -4, 2, 1, 1001);
        refused(house, "the end ahead of weights 0 together", -6, 2, 1, 0, 5);
        refused(house, "the second worth wrong", -4, 2, 1, 1, 1001, 1);
        refused(house, "the second weight wrong", -4, 2, 1, 1, 1, 5000);
        Due.is("no refused one is a book", house.count(0), 0);
        House.row(house, 0, 3, 1, 10, 4);
        Due.is("the first", house.book(0), 0);
        house.comer(0);
        house.best();
        Due.result("nothing is left of the refused ones", house, 10, 1);
    }

    private static void refused(ChooseOnce house, String what, int refusal, long... numbers) {
        House.row(house, 0, 3, numbers);
        Due.is(what, house.book(0), refusal);
    }

    private static void booksFull() {
        ChooseOnce house = new ChooseOnce();
        for (int i = 0; i < 16; i++) {
            Due.is("book " + i, House.book(house, i, 1), i);
        }
        Due.is("full ahead of nothing there", house.book(0), -8);
        house.row(0, 0, 0);
        Due.is("full ahead of the row's end", house.book(0), -8);
        Due.is("no such slot ahead of full", house.book(10), -2);
        Due.is("16 books", house.count(0), 16);
        for (int i = 0; i < 16; i++) {
            house.dismiss();
            Due.is("comer of book " + i, house.comer(i), 0);
            house.best();
            Due.result("book " + i, house, i, 1);
        }
        Due.is("comer of book 16", house.comer(16), -2);
    }

    private static void booksStay() {
        ChooseOnce house = new ChooseOnce();
        House.row(house, 0, 0, 1, 50, 1);
        house.book(0);
        house.write(0, 1, 60);
        house.comer(0);
        house.best();
        Due.result("a book is not its row", house, 50, 1);
        house.tear(0);
        house.best();
        Due.result("a book stays when its row is torn", house, 50, 1);
    }
}
