/** Promises 15 to 19. */
public final class RanksTest {
    private static final int NONE = ChooseOnce.NONE;

    private RanksTest() {
    }

    public static void main(String[] args) {
        letting();
        passing();
        paying();
        ranks();
        words();
        wordsRefused();
        Due.end();
    }

    private static void letting() {
        ChooseOnce house = new ChooseOnce();
        Due.is("3, 0", house.letting(3, 0), true);
        Due.result("the first is the best of three", house, 1, 3);
        Due.is("3, 2", house.letting(3, 2), true);
        Due.result("the last is the best of three", house, 1, 3);
        house.letting(5, 2);
        Due.result("5, 2", house, 13, 30);
        house.letting(10, 3);
        Due.result("10, 3", house, 3349, 8400);
        house.letting(60, 59);
        Due.result("60, 59", house, 1, 60);
        house.letting(60, 0);
        Due.result("60, 0", house, 1, 60);
        Fraction win = Fraction.ZERO;
        for (int j = 22; j < 60; j++) {
            win = win.plus(Fraction.of(22, 60L * j));
        }
        Due.is("60, 22", house.letting(60, 22), true);
        Due.result("60, 22", house, win);
        Due.is("0, 0", house.letting(0, 0), false);
        Due.is("61, 0", house.letting(61, 0), false);
        Due.is("-1, 0", house.letting(-1, 0), false);
        Due.is("5, 5", house.letting(5, 5), false);
        Due.is("5, -1", house.letting(5, -1), false);
        Due.is("1, 1", house.letting(1, 1), false);
        Due.is("least", house.letting(Integer.MIN_VALUE, 0), false);
        Due.result("refused: the result stays", house, win);
    }

    private static void passing() {
        ChooseOnce house = new ChooseOnce();
        house.letting(3, 0);
        int[] lets = {0, 0, 1, 1, 2, 2, 2, 3, 3, 3};
        for (int n = 1; n <= 10; n++) {
            Due.is("pass " + n, house.pass(n), lets[n - 1]);
        }
        Due.is("pass 60", house.pass(60), 22);
        Due.is("pass 59", house.pass(59), 22);
        Due.is("pass 0", house.pass(0), NONE);
        Due.is("pass -1", house.pass(-1), NONE);
        Due.is("pass 61", house.pass(61), NONE);
        Due.result("the result stays", house, 1, 3);
    }

    private static void paying() {
        ChooseOnce house = new ChooseOnce();
        Due.is("rank 1", house.pay(1, 1000), true);
        Due.is("rank 20", house.pay(20, 0), true);
        Due.is("rank 0", house.pay(0, 5), false);
        Due.is("rank 21", house.pay(21, 5), false);
        Due.is("rank -1", house.pay(-1, 5), false);
        Due.is("pay 1001", house.pay(1, 1001), false);
        Due.is("pay -1", house.pay(1, -1), false);
        house.ranks(1);
        Due.result("refused pays change nothing", house, 1000, 1);
        house.pay(1, 3);
        house.ranks(1);
        Due.result("a pay in place of another", house, 3, 1);
        house.pay(20, 1000);
        house.ranks(19);
        house.pay(20, 0);
        ChooseOnce other = new ChooseOnce();
        other.pay(1, 3);
        other.ranks(19);
        Due.is("a pay of a rank behind n is not had", house.part(false, 0), other.part(false, 0));
        Due.is("a pay of a rank behind n is not had", house.part(true, 0), other.part(true, 0));
    }

    private static void ranks() {
        ChooseOnce house = new ChooseOnce();
        house.pay(1, 1);
        for (int n = 1; n <= 20; n++) {
            Due.is("ranks " + n, house.ranks(n), true);
            Fraction win = n == 1 ? Fraction.ONE : Fraction.ZERO;
            int r = house.pass(n);
            for (int j = Math.max(1, r); j < n; j++) {
                win = r == 0 ? Fraction.of(1, n) : win.plus(Fraction.of(r, (long) n * j));
            }
            Due.result("the best alone pays: " + n, house, win);
        }
        Due.is("ranks 0", house.ranks(0), false);
        Due.is("ranks 21", house.ranks(21), false);
        Due.is("ranks -1", house.ranks(-1), false);
        house.pay(1, 0);
        house.pay(2, 0);
        house.pay(3, 6);
        house.ranks(3);
        Due.result("only the worst of three pays: as the best", house, 3, 1);
        house.pay(1, 6);
        house.ranks(3);
        Due.result("the best and the worst pay: any way is as good", house, 4, 1);
        for (int rank = 1; rank <= 20; rank++) {
            house.pay(rank, 1000);
        }
        house.ranks(20);
        Due.result("all pay", house, 1000, 1);
        for (int rank = 1; rank <= 20; rank++) {
            house.pay(rank, 0);
        }
        house.ranks(20);
        Due.result("none pays", house, 0, 1);
        house.pay(20, 1);
        house.ranks(20);
        ChooseOnce other = new ChooseOnce();
        other.pay(1, 1);
        other.ranks(20);
        Due.is("the worst alone pays as the best alone", house.part(false, 0), other.part(false, 0));
        Due.is("the worst alone pays as the best alone", house.part(true, 0), other.part(true, 0));
        house.pay(20, 0);
        house.pay(4, 12);
        house.ranks(4);
        Due.result("the last is taken", house, 11, 2);
    }

    private static void words() {
        ChooseOnce house = new ChooseOnce();
        Due.is("all alike: yes", house.yes(5, 1, 1), 1);
        Due.is("all alike: yes", house.yes(5, 3, 3), 1);
        house.pay(1, 1);
        Due.is("2, 1: as good as no", house.yes(2, 1, 1), 1);
        Due.is("2, 2: the last", house.yes(2, 2, 2), 1);
        Due.is("1, 1: the last", house.yes(1, 1, 1), 1);
        Due.is("3, 1", house.yes(3, 1, 1), 0);
        Due.is("3, 2 best", house.yes(3, 2, 1), 1);
        Due.is("3, 2 second", house.yes(3, 2, 2), 0);
        Due.is("20, 7 best", house.yes(20, 7, 1), 0);
        Due.is("20, 8 best", house.yes(20, 8, 1), 1);
        Due.is("20, 19 second", house.yes(20, 19, 2), 0);
        Due.is("20, 20 worst", house.yes(20, 20, 20), 1);
        house.pay(2, 1);
        Due.is("3, 2 second, one of two that may pay", house.yes(3, 2, 2), 0);
        Due.is("3, 1 of two that pay", house.yes(3, 1, 1), 0);
        house.pay(1, 0);
        Due.is("4, 3 best", house.yes(4, 3, 1), 1);
        Due.is("4, 3 second", house.yes(4, 3, 2), 1);
        Due.is("4, 3 third", house.yes(4, 3, 3), 0);
    }

    private static void wordsRefused() {
        ChooseOnce house = new ChooseOnce();
        house.letting(3, 0);
        Due.is("n 0", house.yes(0, 1, 1), NONE);
        Due.is("n 21", house.yes(21, 1, 1), NONE);
        Due.is("n -1", house.yes(-1, -1, -1), NONE);
        Due.is("j 0", house.yes(4, 0, 0), NONE);
        Due.is("j 5", house.yes(4, 5, 1), NONE);
        Due.is("s 0", house.yes(4, 2, 0), NONE);
        Due.is("s 3", house.yes(4, 2, 3), NONE);
        Due.is("s -1 of the last", house.yes(4, 4, -1), NONE);
        Due.is("s 5 of the last", house.yes(4, 4, 5), NONE);
        Due.is("a good one", house.yes(4, 3, 1), 1);
        Due.result("the result stays", house, 1, 3);
    }
}
