/** Each sentence of 'Terms' 3 on RANKS and of promises 15 to 19 that names a boundary, by a method of its own. */
public final class RanksBoundsTest {
    private static final int MIN = Integer.MIN_VALUE;
    private static final int MAX = Integer.MAX_VALUE;
    private static final int NONE = ChooseOnce.NONE;

    private RanksBoundsTest() {
    }

    public static void main(String[] args) {
        howManyOfLetting();
        howManyAreLet();
        lettingNone();
        lettingAllButTheLast();
        lettingOfNothingRight();
        howManyOfPass();
        passIsTheLeastOfSeveral();
        passKeepsTheResult();
        ranksOfPay();
        paysOfPay();
        payOfNothingRight();
        paysAreZeroAtFirst();
        payInPlaceOfAnother();
        howManyOfRanks();
        paysOfRanksBehindAreNotHad();
        theLastIsTaken();
        ranksOfOne();
        allWordsAndNoOther();
        wordsFarOff();
        yesWhereItIsWorthAsMuch();
        yesToTheLast();
        yesKeepsTheResult();
        Due.end();
    }

    /** "false, if n is not 1 to 60". */
    private static void howManyOfLetting() {
        ChooseOnce house = new ChooseOnce();
        Due.is("letting of 1", house.letting(1, 0), true);
        Due.is("letting of 60", house.letting(60, 0), true);
        Due.result("letting of 60", house, 1, 60);
        Due.is("letting of 0", house.letting(0, 0), false);
        Due.is("letting of 61", house.letting(61, 0), false);
        Due.is("letting of -1", house.letting(-1, 0), false);
        Due.is("letting of the least", house.letting(MIN, 0), false);
        Due.is("letting of the most", house.letting(MAX, 0), false);
        Due.result("refused: the result stays", house, 1, 60);
    }

    /** "or r not 0 to n - 1", for every n. */
    private static void howManyAreLet() {
        for (int n = 1; n <= 60; n++) {
            ChooseOnce house = new ChooseOnce();
            Due.is(n + " letting -1", house.letting(n, -1), false);
            Due.is(n + " letting " + n, house.letting(n, n), false);
            Due.is(n + " letting the least", house.letting(n, MIN), false);
            Due.is(n + " letting the most", house.letting(n, MAX), false);
            Due.result("refused: the result stays", house, 0, 1);
            Due.is(n + " letting 0", house.letting(n, 0), true);
            Due.is(n + " letting all but one", house.letting(n, n - 1), true);
        }
    }

    /** Behind none the first is better than all ahead of it. */
    private static void lettingNone() {
        ChooseOnce house = new ChooseOnce();
        for (int n = 1; n <= 60; n++) {
            house.letting(n, 0);
            Due.result(n + " letting 0", house, 1, n);
        }
    }

    /** Only the last is left: one WINS if it is the best. */
    private static void lettingAllButTheLast() {
        ChooseOnce house = new ChooseOnce();
        for (int n = 1; n <= 60; n++) {
            house.letting(n, n - 1);
            Due.result(n + " letting " + (n - 1), house, 1, n);
        }
    }

    private static void lettingOfNothingRight() {
        ChooseOnce house = new ChooseOnce();
        house.letting(3, 0);
        Due.is("0 letting -1", house.letting(0, -1), false);
        Due.is("61 letting 61", house.letting(61, 61), false);
        Due.is("61 letting 60", house.letting(61, 60), false);
        Due.is("the least letting less", house.letting(MIN, MAX), false);
        Due.result("refused: the result stays", house, 1, 3);
    }

    /** "NONE, if n is not 1 to 60". */
    private static void howManyOfPass() {
        ChooseOnce house = new ChooseOnce();
        Due.is("pass 0", house.pass(0), NONE);
        Due.is("pass 1", house.pass(1), 0);
        Due.is("pass 60", house.pass(60), 22);
        Due.is("pass 61", house.pass(61), NONE);
        Due.is("pass -1", house.pass(-1), NONE);
        Due.is("pass the least", house.pass(MIN), NONE);
        Due.is("pass the most", house.pass(MAX), NONE);
    }

    /** "of several the least": of two, letting none and letting one are alike. */
    private static void passIsTheLeastOfSeveral() {
        ChooseOnce house = new ChooseOnce();
        house.letting(2, 0);
        Due.result("2 letting 0", house, 1, 2);
        house.letting(2, 1);
        Due.result("2 letting 1", house, 1, 2);
        Due.is("the least of both", house.pass(2), 0);
    }

    private static void passKeepsTheResult() {
        ChooseOnce house = new ChooseOnce();
        house.letting(5, 2);
        house.pass(60);
        house.pass(61);
        Due.result("pass changes no result", house, 13, 30);
    }

    /** "false, if rank is not 1 to 20". */
    private static void ranksOfPay() {
        ChooseOnce house = new ChooseOnce();
        Due.is("pay of rank 0", house.pay(0, 7), false);
        Due.is("pay of rank 21", house.pay(21, 7), false);
        Due.is("pay of rank -1", house.pay(-1, 7), false);
        Due.is("pay of the least rank", house.pay(MIN, 7), false);
        Due.is("pay of the greatest rank", house.pay(MAX, 7), false);
        house.ranks(20);
        Due.result("no rank pays", house, 0, 1);
        for (int rank = 1; rank <= 20; rank++) {
            Due.is("pay of rank " + rank, house.pay(rank, 7), true);
        }
        house.ranks(20);
        Due.result("each rank pays", house, 7, 1);
    }

    /** "or v not 0 to 1000". */
    private static void paysOfPay() {
        ChooseOnce house = new ChooseOnce();
        Due.is("pay 1000", house.pay(1, 1000), true);
        house.ranks(1);
        Due.result("pay 1000", house, 1000, 1);
        Due.is("pay 1001", house.pay(1, 1001), false);
        Due.is("pay -1", house.pay(1, -1), false);
        Due.is("the least pay", house.pay(1, MIN), false);
        Due.is("the most pay", house.pay(1, MAX), false);
        house.ranks(1);
        Due.result("refused: the pay stays", house, 1000, 1);
        Due.is("pay 0", house.pay(1, 0), true);
        house.ranks(1);
        Due.result("pay 0", house, 0, 1);
    }

    private static void payOfNothingRight() {
        ChooseOnce house = new ChooseOnce();
        Due.is("no rank 0, no pay -1", house.pay(0, -1), false);
        Due.is("no rank 21, no pay 1001", house.pay(21, 1001), false);
        house.ranks(20);
        Due.result("refused", house, 0, 1);
    }

    /** "0 at first": one told PAY stands alone. */
    private static void paysAreZeroAtFirst() {
        for (int rank = 1; rank <= 20; rank++) {
            ChooseOnce house = new ChooseOnce();
            house.pay(rank, 1000);
            house.letting(1, 0);
            if (rank > 1) {
                house.ranks(rank - 1);
                Due.result("no rank ahead of " + rank + " pays", house, 0, 1);
            }
            house.ranks(rank);
            Due.is("rank " + rank + " pays", house.look(0), 1);
        }
    }

    private static void payInPlaceOfAnother() {
        ChooseOnce house = new ChooseOnce();
        house.pay(1, 1000);
        house.pay(1, 3);
        house.ranks(1);
        Due.result("the later pay", house, 3, 1);
    }

    /** "false, if n is not 1 to 20". */
    private static void howManyOfRanks() {
        ChooseOnce house = new ChooseOnce();
        for (int rank = 1; rank <= 20; rank++) {
            house.pay(rank, 5);
        }
        for (int n = 1; n <= 20; n++) {
            Due.is("ranks " + n, house.ranks(n), true);
            Due.result("ranks " + n, house, 5, 1);
        }
        Due.is("ranks 0", house.ranks(0), false);
        Due.is("ranks 21", house.ranks(21), false);
        Due.is("ranks -1", house.ranks(-1), false);
        Due.is("ranks of the least", house.ranks(MIN), false);
        Due.is("ranks of the most", house.ranks(MAX), false);
        Due.result("refused: the result stays", house, 5, 1);
    }

    /** "for the ranks 1 to n": PAYS of ranks above n are of none that comes. */
    private static void paysOfRanksBehindAreNotHad() {
        ChooseOnce house = new ChooseOnce();
        for (int rank = 3; rank <= 20; rank++) {
            house.pay(rank, 1000);
        }
        house.pay(1, 2);
        house.pay(2, 2);
        house.ranks(2);
        Due.result("ranks 1 and 2 alone", house, 2, 1);
        house.pay(1, 0);
        house.ranks(1);
        Due.result("rank 1 alone", house, 0, 1);
        Due.is("a yes to the first of two, of which the second is the one that pays", house.yes(2, 1, 1), 1);
    }

    /** "the last is taken if none was", though it may pay less. */
    private static void theLastIsTaken() {
        ChooseOnce house = new ChooseOnce();
        house.pay(1, 12);
        house.ranks(2);
        Due.result("one of two pays, whichever way", house, 6, 1);
        house.pay(2, 6);
        house.ranks(2);
        Due.result("both pay, whichever way", house, 9, 1);
        house.pay(3, 0);
        house.ranks(3);
        // The first let pass: then the better is taken, or the last: 12 in 3 orders, 6 in 2, 0 in one.
        Due.result("of three the last is taken in two orders", house, 8, 1);
    }

    private static void ranksOfOne() {
        ChooseOnce house = new ChooseOnce();
        house.pay(1, 1000);
        Due.is("ranks 1", house.ranks(1), true);
        Due.result("the only one is the best and the last", house, 1000, 1);
        Due.is("a yes to it", house.yes(1, 1, 1), 1);
    }

    /** "NONE, if n is not 1 to 20, j not 1 to n, or s not 1 to j", around all of them. */
    private static void allWordsAndNoOther() {
        for (int n = -1; n <= 22; n++) {
            for (int j = -1; j <= 22; j++) {
                ChooseOnce house = new ChooseOnce();
                for (int s = -1; s <= 22; s++) {
                    boolean there = 1 <= n && n <= 20 && 1 <= j && j <= n && 1 <= s && s <= j;
                    // Where all PAYS are 0 a yes is worth as much as a no.
                    Due.is("yes " + n + " " + j + " " + s, house.yes(n, j, s), there ? 1 : NONE);
                }
            }
        }
    }

    private static void wordsFarOff() {
        ChooseOnce house = new ChooseOnce();
        Due.is("the least n", house.yes(MIN, 1, 1), NONE);
        Due.is("the greatest n", house.yes(MAX, 1, 1), NONE);
        Due.is("the least j", house.yes(20, MIN, 1), NONE);
        Due.is("the greatest j", house.yes(20, MAX, 1), NONE);
        Due.is("the least s", house.yes(20, 20, MIN), NONE);
        Due.is("the greatest s", house.yes(20, 20, MAX), NONE);
        Due.is("all the greatest", house.yes(MAX, MAX, MAX), NONE);
        Due.is("all the least", house.yes(MIN, MIN, MIN), NONE);
    }

    /** "where yes is worth as much as no: 1", and just above and below that. */
    private static void yesWhereItIsWorthAsMuch() {
        ChooseOnce house = new ChooseOnce();
        house.pay(1, 10);
        house.pay(2, 5);
        house.pay(3, 0);
        // The second best of two has 5 / 3 + 0, one no more has the mean of all three.
        Due.is("less than a no", house.yes(3, 2, 2), 0);
        house.pay(2, 10);
        house.pay(3, 10);
        Due.is("as much as a no", house.yes(3, 2, 2), 1);
        house.pay(3, 11);
        Due.is("more than a no", house.yes(3, 2, 2), 1);
        Due.is("the best of two, now less than a no", house.yes(3, 2, 1), 0);
        house.pay(3, 10);
        Due.is("the best of two, as much as a no", house.yes(3, 2, 1), 1);
        house.pay(3, 9);
        Due.is("the best of two, more than a no", house.yes(3, 2, 1), 1);
        Due.is("the second of two, less than a no", house.yes(3, 2, 2), 0);
    }

    /** "the last is taken", even as the worst that pays nothing. */
    private static void yesToTheLast() {
        ChooseOnce house = new ChooseOnce();
        house.pay(1, 1000);
        for (int n = 1; n <= 20; n++) {
            Due.is("the worst and last of " + n, house.yes(n, n, n), 1);
            Due.is("the best and last of " + n, house.yes(n, n, 1), 1);
        }
    }

    private static void yesKeepsTheResult() {
        ChooseOnce house = new ChooseOnce();
        house.pay(1, 1);
        house.letting(5, 2);
        house.yes(20, 3, 1);
        house.yes(21, 3, 1);
        Due.result("yes changes no result", house, 13, 30);
    }
}
