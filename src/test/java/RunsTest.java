/** Long runs of calls, often near an edge, on the house and on a plain one: each answer and RESULT is alike. */
public final class RunsTest {
    private static final int RUNS = 250;
    private static final int MOST_CALLS = 512;
    private static final int[] FAR = {Integer.MIN_VALUE, -1_000_000, 1_000_000, Integer.MAX_VALUE};

    private static long state = 20261117L;

    private final ChooseOnce house = new ChooseOnce();
    private final PlainHouse plain = new PlainHouse();
    private final int run;
    private int calls = 0;

    private RunsTest(int run) {
        this.run = run;
    }

    public static void main(String[] args) {
        for (int i = 0; i < RUNS; i++) {
            new RunsTest(i).go();
        }
        Due.end();
    }

    /** 0 to bound - 1. */
    private static int draw(int bound) {
        state = state * 6364136223846793005L + 1442695040888963407L;
        return (int) Math.floorMod(state >> 33, (long) bound);
    }

    /** Mostly low to high, the ends more often than others; else just beside an end, or far off. */
    private static int near(int low, int high) {
        switch (draw(16)) {
            case 0:
                return low - 1;
            case 1:
                return high + 1;
            case 2:
                return low;
            case 3:
                return high;
            case 4:
                return draw(6) == 0 ? FAR[draw(FAR.length)] : high;
            default:
                return low + draw(high - low + 1);
        }
    }

    private void due(String call, long got, long want) {
        calls++;
        Due.is("run " + run + ", call " + calls + ": " + call, got, want);
    }

    private void due(String call, boolean got, boolean want) {
        due(call, got ? 1 : 0, want ? 1 : 0);
    }

    private void dueResult(String call) {
        Due.result("run " + run + ", call " + calls + ": " + call, house, plain.result);
        calls += 3 + plain.look(1) + plain.look(2);
    }

    private void go() {
        // A third of the runs starts with many books, else rows are mostly refused.
        int first = run % 3 == 0 ? 12 : 2;
        for (int i = 0; i < first && calls < MOST_CALLS - 40; i++) {
            tellBook();
        }
        while (calls < MOST_CALLS - 40) {
            switch (draw(8)) {
                case 0:
                    rows();
                    break;
                case 1:
                    comers();
                    break;
                case 2:
                    askOfComers();
                    break;
                case 3:
                    ranks();
                    break;
                case 4:
                    happenings();
                    break;
                case 5:
                    boxes();
                    break;
                case 6:
                    looks();
                    break;
                default:
                    comersOrBoxes();
                    break;
            }
        }
        Due.is("calls of run " + run, calls <= MOST_CALLS, true);
    }

    private void row(int slot, int width, int n) {
        due("row " + slot + " " + width + " " + n, house.row(slot, width, n), plain.row(slot, width, n));
    }

    private void write(int slot, int i, long v) {
        due("write " + slot + " " + i + " " + v, house.write(slot, i, v), plain.write(slot, i, v));
    }

    private void book(int slot) {
        due("book " + slot, house.book(slot), plain.book(slot));
    }

    /** Mostly as told; sometimes its row is too short, or a number is beside what it may be. */
    private void tellBook() {
        int slot = draw(10);
        int pairs = 1 + draw(draw(4) == 0 ? 8 : 3);
        int highest = run % 2 == 0 ? 1000 : 9;
        row(slot, draw(10) == 0 ? draw(4) : 1 + draw(3), 2 * pairs + 1 + (draw(8) == 0 ? -1 : draw(3)));
        write(slot, 0, draw(20) == 0 ? near(1, 8) : pairs);
        for (int i = 0; i < pairs; i++) {
            write(slot, 2 * i + 1, draw(40) == 0 ? near(0, 1000) : draw(highest + 1));
            write(slot, 2 * i + 2, draw(5) == 0 ? 0 : draw(40) == 0 ? near(0, 1000) : draw(highest + 1));
        }
        book(slot);
    }

    private void rows() {
        int slot = near(0, 9);
        switch (draw(5)) {
            case 0:
                row(slot, near(0, 3), near(0, 40));
                break;
            case 1:
                due("tear " + slot, house.tear(slot), plain.tear(slot));
                break;
            case 2:
                write(slot, near(0, 39), ((long) draw(1 << 30) << 33) + near(0, 1000));
                break;
            case 3:
                book(slot);
                break;
            default:
                tellBook();
                break;
        }
    }

    private void comers() {
        int comer = near(0, Math.max(0, plain.count(1) - 1));
        int book = near(0, Math.max(0, plain.count(0) - 1));
        int bar = near(0, run % 2 == 0 ? 1001 : 10);
        switch (draw(10)) {
            case 0:
                if (draw(3) == 0) {
                    due("dismiss", house.dismiss(), plain.dismiss());
                }
                break;
            case 1:
            case 2:
            case 3:
                due("tell " + comer + " " + bar, house.tell(comer, bar), plain.tell(comer, bar));
                break;
            default:
                due("comer " + book, house.comer(book), plain.comer(book));
                break;
        }
    }

    private void askOfComers() {
        int comer = near(0, Math.max(0, plain.count(1) - 1));
        int k = near(0, 10);
        switch (draw(6)) {
            case 0:
                house.told();
                plain.told();
                break;
            case 1:
                house.best();
                plain.best();
                break;
            case 2:
                due("few " + k, house.few(k), plain.few(k));
                break;
            case 3:
                house.foresight();
                plain.foresight();
                break;
            case 4:
                due("bar " + comer, house.bar(comer), plain.bar(comer));
                break;
            default:
                due("half", house.half(), plain.half());
                break;
        }
        calls++;
        dueResult("a question on comers");
    }

    private void ranks() {
        int n = near(1, 60);
        int few = near(1, draw(2) == 0 ? 20 : 6);
        int j = near(1, Math.max(1, Math.min(few, 20)));
        int s = near(1, Math.max(1, Math.min(j, 20)));
        int r = near(0, Math.max(1, Math.min(n, 60)) - 1);
        int rank = near(1, 20);
        int pay = near(0, draw(2) == 0 ? 1000 : 2);
        switch (draw(6)) {
            case 0:
                due("letting " + n + " " + r, house.letting(n, r), plain.letting(n, r));
                break;
            case 1:
                due("pass " + n, house.pass(n), plain.pass(n));
                break;
            case 2:
                due("ranks " + few, house.ranks(few), plain.ranks(few));
                break;
            case 3:
                due("yes " + few + " " + j + " " + s, house.yes(few, j, s), plain.yes(few, j, s));
                break;
            default:
                due("pay " + rank + " " + pay, house.pay(rank, pay), plain.pay(rank, pay));
                return;
        }
        dueResult("a question on ranks");
    }

    private void happenings() {
        int b = near(1, draw(3) == 0 ? 3 : 100);
        int a = near(0, Math.max(0, Math.min(b, 100)));
        switch (draw(8)) {
            case 0:
                if (draw(3) == 0) {
                    due("forget", house.forget(), plain.forget());
                }
                break;
            case 1:
                due("last", house.last(), plain.last());
                dueResult("last");
                break;
            default:
                due("happen " + a + " " + b, house.happen(a, b), plain.happen(a, b));
                break;
        }
    }

    private void boxes() {
        int box = near(0, Math.max(0, plain.count(3) - 1));
        switch (draw(8)) {
            case 0:
                due("empty", house.empty(), plain.empty());
                break;
            case 1:
            case 2:
                due("fair " + box, house.fair(box), plain.fair(box));
                dueResult("fair");
                break;
            case 3:
                house.search();
                plain.search();
                calls++;
                dueResult("search");
                break;
            default:
                tellBox();
                break;
        }
    }

    private void tellBox() {
        int book = near(0, Math.max(0, plain.count(0) - 1));
        int price = near(0, run % 2 == 0 ? draw(2) == 0 ? 1000 : 200 : 5);
        due("box " + book + " " + price, house.box(book, price), plain.box(book, price));
    }

    private void looks() {
        int what = near(0, 4);
        int i = near(0, 5);
        boolean bottom = draw(2) == 0;
        int a = near(-1000, 1000);
        int b = near(1, 100);
        due("look " + what, house.look(what), plain.look(what));
        due("part " + bottom + " " + i, house.part(bottom, i), plain.part(bottom, i));
        due("compare " + a + " " + b, house.compare(a, b), plain.compare(a, b));
        due("count " + what, house.count(what), plain.count(what));
    }

    private void comersOrBoxes() {
        if (draw(2) == 0) {
            comers();
        } else {
            tellBox();
        }
    }
}
