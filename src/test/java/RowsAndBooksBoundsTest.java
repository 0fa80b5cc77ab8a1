/** Each sentence of 'Terms' 1 and of promises 1 to 5 that names a boundary, by a method of its own. */
public final class RowsAndBooksBoundsTest {
    private static final int MIN = Integer.MIN_VALUE;
    private static final int MAX = Integer.MAX_VALUE;
    private static final int EIGHT_PAIRS = 17;

    private RowsAndBooksBoundsTest() {
    }

    public static void main(String[] args) {
        newSlotsAreEmpty();
        newHouseHoldsNothing();
        newPaysAreZero();
        newResultIsZero();
        slotsOfRow();
        widthsOfRow();
        lengthsOfRow();
        rowRefusalsInOrder();
        rowIsAllZero();
        rowInPlaceOfAnother();
        refusedRowLeavesTheOldOne();
        slotsOfTear();
        tearOfNothing();
        slotsOfWrite();
        numbersOfWrite();
        writeRefusalsInOrder();
        cutToOneByte();
        cutToTwoBytes();
        cutToFourBytes();
        eightBytesAreWhole();
        countsAndWeightsAreCutToo();
        slotsOfBook();
        sixteenBooks();
        bookRefusalsInOrder();
        howManyPairs();
        worthsOfBook();
        weightsOfBook();
        rowEndsAheadOfANumber();
        numbersAreReadOneByOne();
        weightsTogetherAboveZero();
        weightsOfOneWorthTogether();
        numbersBehindThePairs();
        drawsAreApart();
        Due.end();
    }

    /** "SLOTS are empty". */
    private static void newSlotsAreEmpty() {
        ChooseOnce house = new ChooseOnce();
        Due.is("no slot has a row", house.count(4), 0);
        for (int slot = 0; slot <= 9; slot++) {
            Due.is("write to new slot " + slot, house.write(slot, 0, 1), -5);
            Due.is("book of new slot " + slot, house.book(slot), -5);
            Due.is("tear new slot " + slot, house.tear(slot), false);
        }
    }

    /** "no BOOKS, COMERS, HAPPENINGS, BOXES". */
    private static void newHouseHoldsNothing() {
        ChooseOnce house = new ChooseOnce();
        for (int what = 0; what <= 3; what++) {
            Due.is("new count " + what, house.count(what), 0);
        }
        Due.is("no book for a comer", house.comer(0), -2);
        Due.is("no book for a box", house.box(0, 0), -2);
        Due.is("no comer has a bar", house.bar(0), ChooseOnce.NONE);
        Due.is("no comer is told", house.tell(0, 0), false);
        Due.is("nothing happens", house.last(), ChooseOnce.NONE);
        Due.is("no box is fair", house.fair(0), false);
        Due.is("none to dismiss", house.dismiss(), 0);
        Due.is("none to forget", house.forget(), 0);
        Due.is("none to empty", house.empty(), 0);
    }

    /** "all PAYS are 0": one alone above 0 would give a mean above 0. */
    private static void newPaysAreZero() {
        ChooseOnce house = new ChooseOnce();
        house.letting(1, 0);
        Due.is("ranks 20", house.ranks(20), true);
        Due.result("ranks of new pays", house, 0, 1);
    }

    /** "the RESULT is 0 / 1". */
    private static void newResultIsZero() {
        ChooseOnce house = new ChooseOnce();
        Due.is("sign", house.look(0), 0);
        Due.is("parts of the top", house.look(1), 1);
        Due.is("parts of the bottom", house.look(2), 1);
        Due.is("top", house.part(false, 0), 0);
        Due.is("bottom", house.part(true, 0), 1);
        Due.is("just 0", house.compare(0, 1), 0);
    }

    /** "-2: there is no such SLOT": 0 to 9. */
    private static void slotsOfRow() {
        ChooseOnce house = new ChooseOnce();
        Due.is("row in slot -1", house.row(-1, 0, 1), -2);
        Due.is("row in slot 10", house.row(10, 0, 1), -2);
        Due.is("row in the least slot", house.row(MIN, 0, 1), -2);
        Due.is("row in the greatest slot", house.row(MAX, 0, 1), -2);
        Due.is("no row yet", house.count(4), 0);
        for (int slot = 0; slot <= 9; slot++) {
            Due.is("row in slot " + slot, house.row(slot, 0, 1), 0);
            Due.is("rows with slot " + slot, house.count(4), slot + 1);
        }
        Due.is("slot 10 of a full house", house.row(10, 0, 1), -2);
        Due.is("ten rows", house.count(4), 10);
    }

    /** "-2: there is no such .. WIDTH": 0 to 3. */
    private static void widthsOfRow() {
        ChooseOnce house = new ChooseOnce();
        Due.is("width -1", house.row(0, -1, 1), -2);
        Due.is("width 4", house.row(0, 4, 1), -2);
        Due.is("the least width", house.row(0, MIN, 1), -2);
        Due.is("the greatest width", house.row(0, MAX, 1), -2);
        Due.is("no row yet", house.count(4), 0);
        for (int width = 0; width <= 3; width++) {
            Due.is("width " + width, house.row(width, width, 1), 0);
        }
        Due.is("four rows", house.count(4), 4);
    }

    /** "-2: .. n is above 40; -3: n is below 0", for each WIDTH; a ROW of no numbers is a ROW. */
    private static void lengthsOfRow() {
        for (int width = 0; width <= 3; width++) {
            ChooseOnce house = new ChooseOnce();
            Due.is("41 numbers", house.row(0, width, 41), -2);
            Due.is("most numbers", house.row(0, width, MAX), -2);
            Due.is("-1 numbers", house.row(0, width, -1), -3);
            Due.is("least numbers", house.row(0, width, MIN), -3);
            Due.is("no row yet", house.count(4), 0);
            Due.is("40 numbers", house.row(0, width, 40), 0);
            Due.is("the 40th number", house.write(0, 39, 1), 0);
            Due.is("no numbers", house.row(1, width, 0), 0);
            Due.is("a row of no numbers is there", house.count(4), 2);
            Due.is("a row of no numbers is torn", house.tear(1), true);
        }
    }

    /** -2 is told ahead of -3. */
    private static void rowRefusalsInOrder() {
        ChooseOnce house = new ChooseOnce();
        Due.is("no slot -1, -1 numbers", house.row(-1, 0, -1), -2);
        Due.is("no slot 10, -1 numbers", house.row(10, 0, -1), -2);
        Due.is("no width -1, -1 numbers", house.row(0, -1, -1), -2);
        Due.is("no width 4, -1 numbers", house.row(0, 4, -1), -2);
        Due.is("nothing right, 41 numbers", house.row(10, 4, 41), -2);
        Due.is("nothing right, -1 numbers", house.row(10, 4, -1), -2);
    }

    /** "all 0", though the numbers of the ROW ahead were not. */
    private static void rowIsAllZero() {
        for (int width = 0; width <= 3; width++) {
            ChooseOnce house = new ChooseOnce();
            fillSlot(house, width, 40, 7);
            house.row(0, width, 40);
            Due.is("the count of a new row is 0", house.book(0), -4);
            house.write(0, 0, 8);
            Due.is("all weights of a new row are 0", house.book(0), -4);
            for (int pair = 0; pair < 8; pair++) {
                house.write(0, 2 * pair + 2, 1);
            }
            Due.is("a book of the new row", house.book(0), 0);
            house.box(0, 0);
            house.fair(0);
            Due.result("all worths of a new row are 0", house, 0, 1);
        }
    }

    private static void fillSlot(ChooseOnce house, int width, int n, long v) {
        house.row(0, width, n);
        for (int i = 0; i < n; i++) {
            house.write(0, i, v);
        }
    }

    /** "(in place of another one)": its WIDTH and its length are the new ones. */
    private static void rowInPlaceOfAnother() {
        ChooseOnce house = new ChooseOnce();
        house.row(0, 0, 40);
        house.row(0, 1, 3);
        Due.is("one row", house.count(4), 1);
        Due.is("the last of the shorter", house.write(0, 2, 1), 0);
        Due.is("behind the shorter", house.write(0, 3, 1), -6);
        house.write(0, 0, 1);
        house.write(0, 1, 1000);
        Due.is("the wider holds 1000", house.book(0), 0);
        house.row(0, 0, 40);
        Due.is("the last of the longer", house.write(0, 39, 1), 0);
        Due.is("behind the longer", house.write(0, 40, 1), -6);
        house.write(0, 0, 1);
        house.write(0, 1, 1000);
        house.write(0, 2, 1);
        Due.is("the narrower does not hold 1000", house.book(0), -4);
        house.row(0, 0, 0);
        Due.is("a row of no numbers in place of another", house.write(0, 0, 1), -6);
        Due.is("still one row", house.count(4), 1);
    }

    /** "Each call that is refused .. changes nothing": of row(), over a ROW that is there. */
    private static void refusedRowLeavesTheOldOne() {
        ChooseOnce house = new ChooseOnce();
        House.row(house, 0, 1, 1, 1000, 1);
        Due.is("41 numbers over a row", house.row(0, 0, 41), -2);
        Due.is("-1 numbers over a row", house.row(0, 0, -1), -3);
        Due.is("width 4 over a row", house.row(0, 4, 2), -2);
        Due.is("the length stays", house.write(0, 2, 1), 0);
        Due.is("the length stays", house.write(0, 3, 1), -6);
        Due.is("the width stays", house.write(0, 1, 999), 0);
        Due.is("the numbers stay", house.book(0), 0);
        house.comer(0);
        house.best();
        Due.result("the numbers stay", house, 999, 1);
    }

    /** "false, if .. there is none such". */
    private static void slotsOfTear() {
        ChooseOnce house = new ChooseOnce();
        for (int slot = 0; slot <= 9; slot++) {
            house.row(slot, 0, 1);
        }
        Due.is("tear slot -1", house.tear(-1), false);
        Due.is("tear slot 10", house.tear(10), false);
        Due.is("tear the least slot", house.tear(MIN), false);
        Due.is("tear the greatest slot", house.tear(MAX), false);
        Due.is("ten rows", house.count(4), 10);
        for (int slot = 0; slot <= 9; slot++) {
            Due.is("tear slot " + slot, house.tear(slot), true);
            Due.is("rows without slot " + slot, house.count(4), 9 - slot);
        }
    }

    /** "false, if it had nothing": at first, and when it was torn; a new ROW can be torn again. */
    private static void tearOfNothing() {
        ChooseOnce house = new ChooseOnce();
        Due.is("nothing at first", house.tear(4), false);
        house.row(4, 2, 40);
        Due.is("a row", house.tear(4), true);
        Due.is("nothing when torn", house.tear(4), false);
        Due.is("write to torn", house.write(4, 0, 1), -5);
        Due.is("book of torn", house.book(4), -5);
        house.row(4, 2, 3);
        Due.is("a row again", house.count(4), 1);
        Due.is("of a new length", house.write(4, 3, 1), -6);
        Due.is("torn again", house.tear(4), true);
    }

    /** "-2: there is no such SLOT". */
    private static void slotsOfWrite() {
        ChooseOnce house = new ChooseOnce();
        for (int slot = 0; slot <= 9; slot++) {
            house.row(slot, 0, 1);
            Due.is("write to slot " + slot, house.write(slot, 0, 1), 0);
        }
        Due.is("write to slot -1", house.write(-1, 0, 1), -2);
        Due.is("write to slot 10", house.write(10, 0, 1), -2);
        Due.is("write to the least slot", house.write(MIN, 0, 1), -2);
        Due.is("write to the greatest slot", house.write(MAX, 0, 1), -2);
    }

    /** "-6: there is no such number", for ROWS of every length. */
    private static void numbersOfWrite() {
        for (int n = 0; n <= 40; n++) {
            ChooseOnce house = new ChooseOnce();
            house.row(0, 3, n);
            Due.is("number -1 of " + n, house.write(0, -1, 1), -6);
            Due.is("number " + n + " of " + n, house.write(0, n, 1), -6);
            Due.is("the least number", house.write(0, MIN, 1), -6);
            Due.is("the greatest number", house.write(0, MAX, 1), -6);
            if (n > 0) {
                Due.is("the first number of " + n, house.write(0, 0, 1), 0);
                Due.is("the last number of " + n, house.write(0, n - 1, 1), 0);
            }
        }
    }

    /** -2 ahead of -5 ahead of -6. */
    private static void writeRefusalsInOrder() {
        ChooseOnce house = new ChooseOnce();
        Due.is("no slot 10, no number", house.write(10, -1, 1), -2);
        Due.is("no slot -1, no number", house.write(-1, 40, 1), -2);
        Due.is("nothing, number -1", house.write(0, -1, 1), -5);
        Due.is("nothing, number 40", house.write(9, 40, 1), -5);
    }

    /** "cut to its WIDTH": one byte, which wraps around at 256. */
    private static void cutToOneByte() {
        worthWritten(0, 0, 0);
        worthWritten(0, 127, 127);
        notAsToldWritten(0, 128);
        notAsToldWritten(0, 255);
        worthWritten(0, 256, 0);
        worthWritten(0, 256 + 127, 127);
        notAsToldWritten(0, 256 + 128);
        notAsToldWritten(0, -1);
        notAsToldWritten(0, -128);
        worthWritten(0, -129, 127);
        worthWritten(0, -256, 0);
        worthWritten(0, Long.MIN_VALUE, 0);
        notAsToldWritten(0, Long.MAX_VALUE);
    }

    /** "cut to its WIDTH": two bytes, which wrap around at 65536. */
    private static void cutToTwoBytes() {
        worthWritten(1, 256, 256);
        worthWritten(1, 1000, 1000);
        notAsToldWritten(1, 1001);
        notAsToldWritten(1, 32768);
        notAsToldWritten(1, 65535);
        worthWritten(1, 65536, 0);
        worthWritten(1, 65536 + 1000, 1000);
        notAsToldWritten(1, 65536 + 1001);
        notAsToldWritten(1, -1);
        worthWritten(1, -65536 + 1000, 1000);
        worthWritten(1, Long.MIN_VALUE, 0);
    }

    /** "cut to its WIDTH": four bytes, which wrap around at 2^32. */
    private static void cutToFourBytes() {
        worthWritten(2, 1000, 1000);
        notAsToldWritten(2, 65536);
        notAsToldWritten(2, 1L << 31);
        notAsToldWritten(2, (1L << 32) - 1);
        worthWritten(2, 1L << 32, 0);
        worthWritten(2, (1L << 32) + 1000, 1000);
        notAsToldWritten(2, (1L << 32) + 1001);
        worthWritten(2, -(1L << 32) + 5, 5);
        worthWritten(2, Long.MIN_VALUE + 7, 7);
    }

    /** Eight bytes hold every v as it is. */
    private static void eightBytesAreWhole() {
        worthWritten(3, 256, 256);
        worthWritten(3, 1000, 1000);
        notAsToldWritten(3, 65536 + 1);
        notAsToldWritten(3, (1L << 32) + 1);
        notAsToldWritten(3, Long.MIN_VALUE);
        notAsToldWritten(3, Long.MAX_VALUE);
        notAsToldWritten(3, Long.MIN_VALUE + 7);
    }

    private static void worthWritten(int width, long v, int worth) {
        ChooseOnce house = new ChooseOnce();
        House.row(house, 3, width, 1, v, 1);
        Due.is("width " + width + ", " + v + " written", house.book(3), 0);
        house.comer(0);
        house.best();
        Due.result("width " + width + ", " + v + " written", house, worth, 1);
    }

    private static void notAsToldWritten(int width, long v) {
        ChooseOnce house = new ChooseOnce();
        House.row(house, 3, width, 1, v, 1);
        Due.is("width " + width + ", " + v + " written", house.book(3), -4);
    }

    /** What is cut is the number, be it a count of pairs, a WORTH or a WEIGHT. */
    private static void countsAndWeightsAreCutToo() {
        ChooseOnce house = new ChooseOnce();
        House.row(house, 0, 0, 256 + 2, 256 + 40, 256 + 3, 512, 512 + 1);
        Due.is("a book of cut numbers", house.book(0), 0);
        house.comer(0);
        house.best();
        Due.result("a book of cut numbers", house, 30, 1);
        House.row(house, 0, 0, 1, 5, 256);
        Due.is("a weight that is cut to 0", house.book(0), -4);
        House.row(house, 0, 0, 256, 5, 1);
        Due.is("a count that is cut to 0", house.book(0), -4);
        House.row(house, 0, 1, 1, 5, 65536 + 1000);
        Due.is("a weight that is cut to 1000", house.book(0), 1);
        House.row(house, 0, 1, 1, 5, 65536 - 1);
        Due.is("a weight that is cut to -1", house.book(0), -4);
    }

    /** "-2: there is no such SLOT", "-5: the SLOT has nothing". */
    private static void slotsOfBook() {
        ChooseOnce house = new ChooseOnce();
        Due.is("book of slot -1", house.book(-1), -2);
        Due.is("book of slot 10", house.book(10), -2);
        Due.is("book of the least slot", house.book(MIN), -2);
        Due.is("book of the greatest slot", house.book(MAX), -2);
        for (int slot = 0; slot <= 9; slot++) {
            Due.is("nothing in slot " + slot, house.book(slot), -5);
            House.row(house, slot, 0, 1, slot, 1);
            Due.is("book of slot " + slot, house.book(slot), slot);
        }
        Due.is("ten books", house.count(0), 10);
    }

    /** "numbered from 0 on, 16 at most", "-8: there are 16". */
    private static void sixteenBooks() {
        ChooseOnce house = new ChooseOnce();
        House.row(house, 0, 0, 1, 100, 1);
        for (int i = 0; i < 16; i++) {
            house.write(0, 1, i);
            Due.is("books ahead of number " + i, house.count(0), i);
            Due.is("comer of book " + i + " ahead of it", house.comer(i), -2);
            Due.is("book " + i, house.book(0), i);
        }
        Due.is("the 17th", house.book(0), -8);
        Due.is("16 books", house.count(0), 16);
        for (int i = 0; i < 16; i++) {
            house.dismiss();
            house.comer(i);
            house.best();
            Due.result("the books stay as they were: " + i, house, i, 1);
        }
    }

    /** -2 ahead of -8 ahead of -5 ahead of what is read. */
    private static void bookRefusalsInOrder() {
        ChooseOnce house = new ChooseOnce();
        House.row(house, 0, 0, 1, 100, 1);
        for (int i = 0; i < 16; i++) {
            house.book(0);
        }
        Due.is("no slot 10 of a full house", house.book(10), -2);
        Due.is("no slot -1 of a full house", house.book(-1), -2);
        Due.is("nothing in a slot of a full house", house.book(1), -8);
        house.row(1, 0, 0);
        Due.is("no numbers in a full house", house.book(1), -8);
        house.row(1, 0, 3);
        Due.is("no pairs in a full house", house.book(1), -8);
        Due.is("16 books", house.count(0), 16);
    }

    /** "how many pairs (1 to 8)". */
    private static void howManyPairs() {
        long[] wrong = {0, -1, 9, 10, 257, Long.MIN_VALUE, Long.MAX_VALUE, 1L << 32};
        for (long count : wrong) {
            ChooseOnce house = new ChooseOnce();
            house.row(0, 3, 40);
            for (int i = 0; i < 40; i++) {
                house.write(0, i, 1);
            }
            house.write(0, 0, count);
            Due.is("pairs: " + count, house.book(0), -4);
            Due.is("no book of it", house.count(0), 0);
        }
        for (int count = 1; count <= 8; count++) {
            ChooseOnce house = new ChooseOnce();
            Due.is("pairs: " + count, bookOfPairs(house, count, 2 * count + 1), 0);
            house.comer(0);
            house.foresight();
            Due.result("mean of pairs: " + count, house, 10L * (count + 1), 2);
        }
    }

    /** Worths 10, 20, .., each with the weight 1, in a ROW of some length. */
    private static int bookOfPairs(ChooseOnce house, int count, int length) {
        layPairs(house, count, length);
        return house.book(0);
    }

    private static void layPairs(ChooseOnce house, int count, int length) {
        house.row(0, 1, length);
        house.write(0, 0, count);
        for (int pair = 0; pair < count; pair++) {
            house.write(0, 2 * pair + 1, 10L * (pair + 1));
            house.write(0, 2 * pair + 2, 1);
        }
    }

    /** "a WORTH (0 to 1000)", in every pair. */
    private static void worthsOfBook() {
        for (int pair = 0; pair < 8; pair++) {
            int at = 2 * pair + 1;
            Due.is("worth -1 of pair " + pair, bookWith(at, -1), -4);
            Due.is("worth 0 of pair " + pair, bookWith(at, 0), 0);
            Due.is("worth 1000 of pair " + pair, bookWith(at, 1000), 0);
            Due.is("worth 1001 of pair " + pair, bookWith(at, 1001), -4);
        }
    }

    /** "a WEIGHT (0 to 1000)", in every pair. */
    private static void weightsOfBook() {
        for (int pair = 0; pair < 8; pair++) {
            int at = 2 * pair + 2;
            Due.is("weight -1 of pair " + pair, bookWith(at, -1), -4);
            Due.is("weight 0 of pair " + pair, bookWith(at, 0), 0);
            Due.is("weight 1000 of pair " + pair, bookWith(at, 1000), 0);
            Due.is("weight 1001 of pair " + pair, bookWith(at, 1001), -4);
        }
    }

    private static int bookWith(int at, long v) {
        ChooseOnce house = new ChooseOnce();
        layPairs(house, 8, EIGHT_PAIRS);
        house.write(0, at, v);
        int answer = house.book(0);
        Due.is("books with " + v + " at " + at, house.count(0), answer == 0 ? 1 : 0);
        return answer;
    }

    /** "-6: the ROW ends ahead of one". */
    private static void rowEndsAheadOfANumber() {
        for (int count = 1; count <= 8; count++) {
            for (int length = 0; length <= 2 * count; length++) {
                ChooseOnce house = new ChooseOnce();
                Due.is(count + " pairs in " + length, bookOfPairs(house, count, length), -6);
                Due.is("no book of it", house.count(0), 0);
            }
            Due.is(count + " pairs in enough", bookOfPairs(new ChooseOnce(), count, 2 * count + 1), 0);
        }
    }

    /** "as the numbers are read one by one": what comes first of a wrong number and the end is answered. */
    private static void numbersAreReadOneByOne() {
        for (int at = 0; at < EIGHT_PAIRS; at++) {
            for (int length = 0; length <= EIGHT_PAIRS; length++) {
                ChooseOnce house = new ChooseOnce();
                layPairs(house, 8, length);
                house.write(0, at, 2000);
                Due.is("wrong at " + at + " of " + length, house.book(0), length <= at ? -6 : -4);
            }
        }
    }

    /** "-4 also, if the WEIGHTS are 0 together", which is seen when all is read. */
    private static void weightsTogetherAboveZero() {
        for (int count = 1; count <= 8; count++) {
            ChooseOnce house = new ChooseOnce();
            layPairs(house, count, 2 * count + 1);
            for (int pair = 0; pair < count; pair++) {
                house.write(0, 2 * pair + 2, 0);
            }
            Due.is("weights 0 together of " + count, house.book(0), -4);
            house.write(0, 2 * count, 1);
            Due.is("the last weight 1 of " + count, house.book(0), 0);
            house.comer(0);
            house.best();
            Due.result("the one that has a weight", house, 10L * count, 1);
        }
        ChooseOnce house = new ChooseOnce();
        House.row(house, 0, 0, 2, 5, 0, 6);
        Due.is("the end ahead of weights 0 together", house.book(0), -6);
    }

    /** "(of pairs with one WORTH their WEIGHTS together)", up to all eight of them. */
    private static void weightsOfOneWorthTogether() {
        ChooseOnce house = new ChooseOnce();
        House.book(house, 5, 1000, 5, 1000, 5, 1000, 5, 1000, 5, 1000, 5, 1000, 5, 1000, 5, 1000);
        House.book(house, 9, 1000, 3, 1000, 9, 1000, 3, 1000, 9, 1000, 3, 1000, 9, 1000, 9, 1000);
        house.comer(0);
        house.foresight();
        Due.result("one worth", house, 5, 1);
        house.dismiss();
        house.comer(1);
        house.tell(0, 9);
        house.told();
        Due.result("9 of two worths", house, 45, 8);
        house.box(1, 3);
        house.fair(0);
        Due.result("fair bar of two worths", house, 21, 5);
    }

    /** A ROW may be longer than its pairs; what stands behind them is not read. */
    private static void numbersBehindThePairs() {
        ChooseOnce house = new ChooseOnce();
        layPairs(house, 8, 40);
        for (int i = EIGHT_PAIRS; i < 40; i++) {
            house.write(0, i, -1);
        }
        Due.is("a book of a longer row", house.book(0), 0);
        house.write(0, 0, 1);
        house.write(0, 3, 2000);
        Due.is("a shorter book of it", house.book(0), 1);
        house.comer(1);
        house.best();
        Due.result("the first pair alone", house, 10, 1);
    }

    /** "All draws are apart from one another", those of one BOOK too. */
    private static void drawsAreApart() {
        ChooseOnce house = new ChooseOnce();
        House.book(house, 0, 1, 8, 1);
        for (int n = 1; n <= 3; n++) {
            house.comer(0);
            house.foresight();
            Due.result("the greatest of " + n, house, 8 * ((1 << n) - 1), 1 << n);
        }
    }
}
