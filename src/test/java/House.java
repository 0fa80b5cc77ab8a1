/** A house whose books are told in one go. */
final class House {
    private House() {
    }

    /** The numbers are the pairs: worth, weight, worth, weight, .. */
    static int book(ChooseOnce house, int... pairs) {
        if (house.row(9, 2, pairs.length + 1) != 0 || house.write(9, 0, pairs.length / 2) != 0) {
            throw new IllegalStateException("no row for a book");
        }
        for (int i = 0; i < pairs.length; i++) {
            house.write(9, i + 1, pairs[i]);
        }
        int number = house.book(9);
        house.tear(9);
        return number;
    }

    static void row(ChooseOnce house, int slot, int width, long... numbers) {
        house.row(slot, width, numbers.length);
        for (int i = 0; i < numbers.length; i++) {
            house.write(slot, i, numbers[i]);
        }
    }
}
