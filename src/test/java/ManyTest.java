/** Promises 30 to 37: rests, split, run, unrun, red, keep, again, count. */
public final class ManyTest {
    private static final Due DUE = new Due("ManyTest");
    private static final int LEAST = Integer.MIN_VALUE;
    private static final int MOST = Integer.MAX_VALUE;

    public static void main(String[] args) {
        rests();
        split();
        run();
        unrun();
        red();
        keep();
        again();
        slotsKeepBoatsAndRunsAlone();
        count();
        DUE.end();
    }

    private static void rests() {
        BoatsOfPaper x = new BoatsOfPaper();
        DUE.is("one lane", x.rests(9, 9), 1);
        Due.dig(x, "3/5");
        // 3 and c each: 2 alike at c 2, for the third in lane 0 takes as long as the first in lane 1
        DUE.is("rests(1, 0)", x.rests(1, 0), 1);
        DUE.is("rests(2, 2)", x.rests(2, 2), 2);
        DUE.is("rests(2, 3)", x.rests(2, 3), 1);
        DUE.is("rests(2, 1)", x.rests(2, 1), 1);
        DUE.is("rests(3, 1)", x.rests(3, 1), 2);
        Due.dig(x, "4/4/4");
        DUE.is("all alike, without a crowd", x.rests(3, 0), 10);
        DUE.is("all alike", x.rests(3, 1), 1);
        DUE.is("one is over", x.rests(4, 1), 3);
        DUE.is("two are over", x.rests(5, 1), 3);
        Due.dig(x, "LD1/W11/22D");
        DUE.is("none where there is a wall", x.rests(1, 0), 1);
        DUE.is("none where there is a wall", x.rests(2, 1), 2);
        Due.dig(x, "W1/1W");
        DUE.is("walls", x.rests(1, 0), -3);
        DUE.is("OUTSIDE ahead of STATE", x.rests(0, 0), -2);
        for (int n : new int[] {0, -1, 10, LEAST, MOST}) {
            DUE.is("rests(" + n + ", 0)", x.rests(n, 0), -2);
            DUE.is("split(" + n + ", 0)", x.split(n, 0), -2);
        }
        for (int c : new int[] {-1, 10, LEAST, MOST}) {
            DUE.is("rests(1, " + c + ")", x.rests(1, c), -2);
            DUE.is("split(1, " + c + ")", x.split(1, c), -2);
        }
    }

    private static void split() {
        BoatsOfPaper x = new BoatsOfPaper();
        DUE.is("one lane", x.split(9, 9), 900);
        Due.dig(x, "3/5");
        DUE.is("split(2, 2)", x.split(2, 2), 200);
        DUE.is("split(2, 3)", x.split(2, 3), 110);
        DUE.is("split(3, 1)", x.split(3, 1), 300);
        DUE.is("split(9, 1)", x.split(9, 1), 630);
        Due.dig(x, "9/4/4");
        DUE.is("split(4, 1)", x.split(4, 1), 22);
        DUE.is("the most in lane 1", x.split(5, 1), 32);
        DUE.is("split(9, 9)", x.split(9, 9), 333);
        DUE.is("split(8, 9)", x.split(8, 9), 233);
        Due.dig(x, "W1/LD/1D");
        DUE.is("leaves take 2 and drains 1", x.split(1, 0), 1);
        DUE.is("split(2, 1)", x.split(2, 1), 11);
        DUE.is("split(3, 1)", x.split(3, 1), 12);
        Due.dig(x, "W");
        DUE.is("walls", x.split(9, 9), -3);
        // as if it lived for ever: no boats are needed
        Due.dig(x, "999999999999/999999999998");
        DUE.is("split(3, 9)", x.split(3, 9), 12 * 10);
        DUE.is("boats", x.count(1), 0);
    }

    private static void run() {
        BoatsOfPaper x = new BoatsOfPaper();
        DUE.is("run(-1, true)", x.run(-1, true), -2);
        DUE.is("run(100, true)", x.run(100, true), -2);
        DUE.is("run(least, true)", x.run(LEAST, true), -2);
        DUE.is("run(most, false)", x.run(MOST, false), -2);
        DUE.is("count(3)", x.count(3), 0);
        for (int k = 1; k <= 12; k++) {
            DUE.is("run(" + 9 * (k - 1) + ", ..)", x.run(9 * (k - 1), k % 3 == 0), k);
        }
        DUE.is("run(99, true)", x.run(99, true), -4);
        DUE.is("OUTSIDE ahead of FULL", x.run(100, true), -2);
        DUE.is("count(3)", x.count(3), 12);
        DUE.is("count(4)", x.count(4), 4);
    }

    private static void unrun() {
        BoatsOfPaper x = new BoatsOfPaper();
        DUE.is("unrun()", x.unrun(), 0);
        x.boat(5, 5, 1, 1);
        x.run(9, true);
        x.run(8, false);
        DUE.is("unrun()", x.unrun(), 2);
        DUE.is("unrun()", x.unrun(), 0);
        DUE.is("count(3)", x.count(3), 0);
        DUE.is("count(4)", x.count(4), 0);
        DUE.is("boats stay", x.count(1), 1);
        DUE.isFraction("red()", x.red(true), x.red(false), 1, 1);
        DUE.is("run(0, false)", x.run(0, false), 1);
        DUE.is("count(4)", x.count(4), 0);
    }

    private static void red() {
        BoatsOfPaper x = new BoatsOfPaper();
        DUE.isFraction("no runs", x.red(true), x.red(false), 1, 1);
        x.run(5, false);
        DUE.isFraction("no red ones", x.red(true), x.red(false), 1, 1);
        x.run(7, true);
        DUE.isFraction("the farthest of 2", x.red(true), x.red(false), 1, 2);
        x.run(7, false);
        DUE.isFraction("as far counts", x.red(true), x.red(false), 2, 3);
        x.run(5, true);
        // of 5, 7, 7, 5 two: 12 or more are all but 5 and 5
        DUE.isFraction("two of four", x.red(true), x.red(false), 5, 6);
        x.unrun();
        for (int k = 0; k < 12; k++) {
            x.run(99 - k, k < 6);
        }
        DUE.isFraction("one way of 924", x.red(true), x.red(false), 1, 924);
        x.unrun();
        for (int k = 0; k < 12; k++) {
            x.run(k, k < 6);
        }
        DUE.isFraction("the worst", x.red(true), x.red(false), 1, 1);
        x.unrun();
        for (int k = 0; k < 12; k++) {
            x.run(k, true);
        }
        DUE.isFraction("all red", x.red(true), x.red(false), 1, 1);
    }

    private static void keep() {
        BoatsOfPaper x = new BoatsOfPaper();
        for (int slot : new int[] {-1, 2, LEAST, MOST}) {
            DUE.is("keep(" + slot + ")", x.keep(slot), -1);
            DUE.is("again(" + slot + ")", x.again(slot), -1);
        }
        DUE.is("again(0)", x.again(0), -3);
        DUE.is("again(1)", x.again(1), -3);
        DUE.is("keep(1)", x.keep(1), 0);
        DUE.is("again(0)", x.again(0), -3);
        x.boat(5, 5, 1, 1);
        x.boat(6, 6, 1, 1);
        DUE.is("keep(0)", x.keep(0), 2);
        DUE.is("they stay", x.count(1), 2);
        DUE.is("again(1)", x.again(1), 0);
        DUE.is("count(1)", x.count(1), 0);
        DUE.is("again(0)", x.again(0), 2);
        x.empty(0);
        x.boat(7, 7, 1, 1);
        DUE.is("kept anew", x.keep(0), 3);
        DUE.is("again(0)", x.again(0), 3);
    }

    private static void again() {
        BoatsOfPaper x = new BoatsOfPaper();
        x.boat(12, 9, 4, 3);
        x.boat(9, 12, 3, 2);
        x.wax(0, 17, 6);
        x.wax(1, 3, 2);
        x.coin(0, 5, 2, 68);
        x.coin(0, 4, 1, 7);
        x.coin(1, 4, 7, 9);
        x.run(5, true);
        x.run(4, false);
        x.run(9, false);
        x.keep(0);
        // all is changed, and kept elsewhere
        x.wax(0, 99, 0);
        x.empty(1);
        x.coin(0, 0, 0, 99);
        x.coin(1, 0, 0, 99);
        x.coin(1, 1, 0, 99);
        x.boat(3, 3, 1, 1);
        x.unrun();
        x.run(99, false);
        x.run(98, true);
        x.run(97, true);
        x.run(96, true);
        DUE.is("keep(1)", x.keep(1), 3);
        for (int time = 0; time < 2; time++) {
            DUE.is("again(0)", x.again(0), 2);
            int[][] due = {{12, 9, 4, 3, 6, 3, 17, 6, 2, 100361, 100136}, {9, 12, 3, 2, 5, 8, 3, 2, 1, 100036, 100063}};
            for (int boat = 0; boat < 2; boat++) {
                for (int what = 0; what < 11; what++) {
                    DUE.is("about(" + boat + ", " + what + ")", x.about(boat, what), due[boat][what]);
                }
            }
            DUE.is("about(2, 0)", x.about(2, 0), -1);
            DUE.is("count(2)", x.count(2), 3);
            DUE.is("count(3)", x.count(3), 3);
            DUE.is("count(4)", x.count(4), 1);
            DUE.isFraction("red", x.red(true), x.red(false), 2, 3);
            // what is changed now does not change what is kept
            x.coin(0, 0, 0, 1);
            x.wax(1, 0, 0);
            x.run(50, true);
            x.boat(9, 9, 9, 1);
        }
        DUE.is("again(1)", x.again(1), 3);
        DUE.is("about(0, 8)", x.about(0, 8), 3);
        DUE.is("about(0, 6)", x.about(0, 6), 99);
        DUE.is("about(1, 8)", x.about(1, 8), 2);
        DUE.is("about(2, 6)", x.about(2, 6), 10);
        DUE.is("count(4)", x.count(4), 3);
    }

    private static void slotsKeepBoatsAndRunsAlone() {
        BoatsOfPaper x = new BoatsOfPaper();
        Due.dig(x, "1L/2D");
        x.mishap(4, 5);
        x.boat(9, 9, 1, 1);
        x.keep(0);
        x.mishap(6, 7);
        Due.dig(x, "123/456");
        Due.put(x, "/7");
        DUE.is("again(0)", x.again(0), 1);
        DUE.is("the gutter stays", x.place(1, 2), 6);
        DUE.is("the text stays", x.count(0), 9);
        DUE.is("mishaps stay", x.mishap(0, 0), 67);
        // a slot that was kept without boats puts them away
        BoatsOfPaper y = new BoatsOfPaper();
        y.run(3, true);
        DUE.is("keep(1)", y.keep(1), 0);
        y.boat(9, 9, 1, 1);
        y.wax(0, 77, 7);
        y.coin(0, 0, 0, 7);
        y.unrun();
        DUE.is("again(1)", y.again(1), 0);
        DUE.is("count(1)", y.count(1), 0);
        DUE.is("count(3)", y.count(3), 1);
        DUE.is("a new boat's number", y.boat(5, 6, 1, 1), 0);
        DUE.is("a new boat drinks", y.about(0, 6), 10);
        DUE.is("a new boat's wax", y.about(0, 7), 0);
        DUE.is("a new boat's coins", y.about(0, 8), 0);
    }

    private static void count() {
        BoatsOfPaper x = new BoatsOfPaper();
        Due.put(x, "12/34");
        x.boat(9, 9, 1, 1);
        x.boat(9, 9, 1, 1);
        x.coin(0, 0, 0, 1);
        x.coin(1, 0, 0, 1);
        x.coin(1, 0, 0, 1);
        x.run(1, true);
        x.run(1, true);
        x.run(1, false);
        x.run(1, true);
        x.run(1, false);
        int[] due = {5, 2, 3, 5, 3};
        for (int what = 0; what < due.length; what++) {
            DUE.is("count(" + what + ")", x.count(what), due[what]);
        }
        DUE.is("count(5)", x.count(5), -2);
        DUE.is("count(-1)", x.count(-1), -2);
        DUE.is("count(least)", x.count(LEAST), -2);
        DUE.is("count(most)", x.count(MOST), -2);
    }
}
