import java.math.BigInteger;

/** What all tests of the project share: answers that are due, and the RESULT as one fraction. */
final class Due {
    private static final BigInteger BASE = BigInteger.valueOf(1_000_000_000L);
    private static int wrong = 0;

    private Due() {
    }

    static void is(String what, long got, long want) {
        if (got != want) {
            tellWrong(what, Long.toString(got), Long.toString(want));
        }
    }

    static void is(String what, boolean got, boolean want) {
        if (got != want) {
            tellWrong(what, Boolean.toString(got), Boolean.toString(want));
        }
    }

    static void result(String what, ChooseOnce house, long top, long bottom) {
        result(what, house, Fraction.of(top, bottom));
    }

    /** Reads the parts as they stand, so that a fraction that is not in lowest terms is wrong. */
    static void result(String what, ChooseOnce house, Fraction want) {
        BigInteger top = digits(house, false).multiply(BigInteger.valueOf(house.look(0)));
        BigInteger bottom = digits(house, true);
        if (!top.equals(want.top) || !bottom.equals(want.bottom)) {
            tellWrong(what, top + " / " + bottom, want.toString());
        }
    }

    private static BigInteger digits(ChooseOnce house, boolean bottom) {
        BigInteger sum = BigInteger.ZERO;
        for (int i = house.look(bottom ? 2 : 1) - 1; i >= 0; i--) {
            sum = sum.multiply(BASE).add(BigInteger.valueOf(house.part(bottom, i)));
        }
        return sum;
    }

    private static void tellWrong(String what, String got, String want) {
        wrong++;
        if (wrong <= 50) {
            System.out.println(what + " answered " + got + ", due is " + want);
        }
    }

    static void end() {
        System.out.println(wrong == 0 ? "all answers are as due" : wrong + " answers are not as due");
        if (wrong != 0) {
            System.exit(1);
        }
    }
}
