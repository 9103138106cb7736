/** Promises 22 to 29: time, far, ended, home, first, best, whose, likeliest. */
public final class DriftTest {
    private static final Due DUE = new Due("DriftTest");
    private static final int LEAST = Integer.MIN_VALUE;
    private static final int MOST = Integer.MAX_VALUE;

    public static void main(String[] args) {
        time();
        far();
        ended();
        endedWithoutLife();
        longest();
        home();
        homeInTime();
        first();
        best();
        whose();
        likeliest();
        unknown();
        DUE.end();
    }

    /** A BOAT that drinks nothing, so that it lives 10 seconds for each t. */
    private static int boatOf(BoatsOfPaper x, int t) {
        int boat = x.boat(9, 9, t, 1);
        x.wax(boat, 0, 0);
        return boat;
    }

    /** A BOAT that is UNDER at once. */
    private static int sunkBoat(BoatsOfPaper x) {
        return x.boat(20, 19, 9, 9);
    }

    /** A BOAT that lives so many seconds, 0 to 9. */
    private static int shortBoat(BoatsOfPaper x, int seconds) {
        int boat = x.boat(4, 3, 9, 1);
        x.wax(boat, seconds == 0 ? 99 : 92 / seconds, 0);
        DUE.is("lives " + seconds, x.life(boat), seconds);
        return boat;
    }

    private static void time() {
        BoatsOfPaper x = new BoatsOfPaper();
        boatOf(x, 1);
        boatOf(x, 2);
        sunkBoat(x);
        Due.dig(x, "1LD6/1LD7/WLD1");
        DUE.is("time(0, 0): just", x.time(0, 0), 10);
        DUE.is("time(0, 1): too long", x.time(0, 1), -9);
        DUE.is("time(1, 1)", x.time(1, 1), 11);
        DUE.is("time(1, 2): a wall", x.time(1, 2), -9);
        DUE.is("time(2, 0): under at once", x.time(2, 0), -9);
        x.mishap(9, 9);
        DUE.is("without mishaps", x.time(0, 0), 10);
        Due.dig(x, "11W");
        DUE.is("a wall at last", x.time(0, 0), -9);
        Due.dig(x, "123456789LDD");
        boatOf(x, 5);
        DUE.is("time(3, 0)", x.time(3, 0), 49);
    }

    private static void far() {
        BoatsOfPaper x = new BoatsOfPaper();
        boatOf(x, 1);
        sunkBoat(x);
        Due.dig(x, "1L1D1/55111/L1W11");
        // 1, 7, 7, 56, 56 of 1, 10, 10, 100, 100
        DUE.isFraction("far(0, 0)", x.far(0, 0, true), x.far(0, 0, false), 88, 25);
        DUE.isFraction("till second 10", x.far(0, 1, true), x.far(0, 1, false), 2, 1);
        DUE.isFraction("till the wall", x.far(0, 2, true), x.far(0, 2, false), 7, 5);
        DUE.isFraction("far(1, 0): under at once", x.far(1, 0, true), x.far(1, 0, false), 0, 1);
        x.mishap(0, 0);
        DUE.isFraction("without mishaps", x.far(0, 0, true), x.far(0, 0, false), 5, 1);
        Due.dig(x, "W");
        DUE.isFraction("a wall at once", x.far(0, 0, true), x.far(0, 0, false), 0, 1);
    }

    private static void ended() {
        BoatsOfPaper x = new BoatsOfPaper();
        boatOf(x, 1);
        Due.dig(x, "1L1D1/551D1/L1WLL");
        int[][] due = {{0, 1, 3, 10, 0, 1, 7, 50, 0, 1}, {0, 1, 0, 1, 1, 1, 0, 1, 0, 1}, {3, 10, 0, 1, 7, 10, 0, 1, 0, 1}};
        for (int lane = 0; lane < 3; lane++) {
            for (int place = 0; place < 5; place++) {
                DUE.isFraction("ended(0, " + lane + ", " + place + ")", x.ended(0, lane, place, true),
                    x.ended(0, lane, place, false), due[lane][2 * place], due[lane][2 * place + 1]);
            }
        }
        // no time for the leaf: it ENDS there for sure, whether it sticks or not
        Due.dig(x, "9L1");
        DUE.isFraction("no time", x.ended(0, 0, 1, true), x.ended(0, 0, 1, false), 1, 1);
        // just time
        Due.dig(x, "8L1");
        DUE.isFraction("just time", x.ended(0, 0, 1, true), x.ended(0, 0, 1, false), 3, 10);
        DUE.isFraction("none left", x.ended(0, 0, 2, true), x.ended(0, 0, 2, false), 7, 10);
        x.mishap(0, 9);
        DUE.isFraction("no leaf is sticky", x.ended(0, 0, 1, true), x.ended(0, 0, 1, false), 0, 1);
        Due.dig(x, "D");
        DUE.isFraction("a drain", x.ended(0, 0, 0, true), x.ended(0, 0, 0, false), 9, 10);
    }

    private static void endedWithoutLife() {
        BoatsOfPaper x = new BoatsOfPaper();
        sunkBoat(x);
        shortBoat(x, 0);
        Due.dig(x, "L1/11");
        for (int boat = 0; boat < 2; boat++) {
            DUE.isFraction("ended at 0", x.ended(boat, 0, 0, true), x.ended(boat, 0, 0, false), 1, 1);
            DUE.isFraction("ended at 1", x.ended(boat, 0, 1, true), x.ended(boat, 0, 1, false), 0, 1);
            DUE.isFraction("far", x.far(boat, 1, true), x.far(boat, 1, false), 0, 1);
            DUE.isFraction("home", x.home(boat, 1, true), x.home(boat, 1, false), 0, 1);
            DUE.is("first", x.first(boat, 1), 1);
            DUE.is("best", x.best(boat), 0);
        }
    }

    private static void longest() {
        BoatsOfPaper x = new BoatsOfPaper();
        x.boat(20, 20, 9, 2);
        x.wax(0, 0, 9);
        Due.dig(x, "999999999999/LLLLLLLLLLLL/DDDDDDDDDDDD");
        x.mishap(7, 9);
        DUE.is("time(0, 0)", x.time(0, 0), 108);
        DUE.isFraction("one leaf, then over", x.home(0, 1, true), x.home(0, 1, false), 3, 10);
        long power = 1;
        long below = 1;
        long sum = 0;
        for (int k = 0; k < 12; k++) {
            power *= 3;
            below *= 10;
            sum = 10 * sum + power;
        }
        DUE.isFraction("far(0, 1)", x.far(0, 1, true), x.far(0, 1, false), sum, below);
        DUE.isFraction("the last leaf", x.ended(0, 1, 11, true), x.ended(0, 1, 11, false), 7 * (power / 3), below);
        DUE.isFraction("the last drain", x.ended(0, 2, 11, true), x.ended(0, 2, 11, false), 9, below);
        // from a leaf to the open lane at once; from a drain by way of one leaf
        Due.dig(x, "L99999999999/LLLLLLLLLLLL/DDDDDDDDDDDD");
        DUE.isFraction("home(0, 0)", x.home(0, 0, true), x.home(0, 0, false), 3, 10);
        DUE.isFraction("home(0, 1)", x.home(0, 1, true), x.home(0, 1, false), 3, 10);
        DUE.isFraction("home(0, 2)", x.home(0, 2, true), x.home(0, 2, false), 3, 100);
        Due.dig(x, "9W9W9W9W9W9W/W9W9W9W9W9W9");
        DUE.isFraction("119 seconds, blown behind each place", x.home(0, 0, true), x.home(0, 0, false), 1, 1);
        x.wax(0, 0, 5);
        DUE.isFraction("just too long", x.home(0, 0, true), x.home(0, 0, false), 0, 1);
        x.wax(0, 0, 6);
        DUE.isFraction("120 seconds", x.home(0, 0, true), x.home(0, 0, false), 1, 1);
        Due.dig(x, "LLLLLLLLLLLL/LLLLLLLLLLLL/LLLLLLLLLLLL");
        DUE.isFraction("leaves alone", x.home(0, 2, true), x.home(0, 2, false), power, below);
    }

    private static void home() {
        BoatsOfPaper x = new BoatsOfPaper();
        boatOf(x, 2);
        Due.dig(x, "1L1L1/11W11/1DDD1");
        // lane 0: over to 1 for place 1, back to the leaf's or to the drain's lane for place 2, then to 1
        DUE.isFraction("home(0, 0)", x.home(0, 0, true), x.home(0, 0, false), 1, 1);
        DUE.isFraction("home(0, 1)", x.home(0, 1, true), x.home(0, 1, false), 1, 1);
        // the lane next to it alone, one step behind each place
        DUE.isFraction("home(0, 2)", x.home(0, 2, true), x.home(0, 2, false), 1, 1);
        Due.dig(x, "11/LL/DD");
        DUE.isFraction("behind a leaf", x.home(0, 1, true), x.home(0, 1, false), 7, 10);
        DUE.isFraction("two lanes off", x.home(0, 2, true), x.home(0, 2, false), 16, 25);
        // behind the last place it is home: nothing is gone over to there
        Due.dig(x, "L/1/D");
        DUE.isFraction("one place", x.home(0, 0, true), x.home(0, 0, false), 7, 10);
        DUE.isFraction("one place", x.home(0, 1, true), x.home(0, 1, false), 1, 1);
        DUE.isFraction("one place", x.home(0, 2, true), x.home(0, 2, false), 4, 5);
        Due.dig(x, "1W/W1");
        DUE.isFraction("around the wall", x.home(0, 0, true), x.home(0, 0, false), 1, 1);
        DUE.isFraction("a wall at once", x.home(0, 1, true), x.home(0, 1, false), 0, 1);
        Due.dig(x, "1W1/1W1/1W1");
        DUE.isFraction("walls all over", x.home(0, 0, true), x.home(0, 0, false), 0, 1);
    }

    private static void homeInTime() {
        BoatsOfPaper x = new BoatsOfPaper();
        boatOf(x, 1);
        // going over takes a second: 8 and 1 and 1 are just in time, 9 and 1 and 1 are not
        Due.dig(x, "8L/11");
        DUE.isFraction("just in time", x.home(0, 0, true), x.home(0, 0, false), 1, 1);
        Due.dig(x, "9D/11");
        DUE.isFraction("no time to go over", x.home(0, 0, true), x.home(0, 0, false), 4, 5);
        Due.dig(x, "9L/11");
        DUE.isFraction("no time at all", x.home(0, 0, true), x.home(0, 0, false), 0, 1);
        // 5 and 2 and 2 by leaves; 5, 1, 4, 1 is one too many, 5, 2, 1, 1 is not
        Due.dig(x, "5LL/541");
        DUE.isFraction("one leaf", x.home(0, 0, true), x.home(0, 0, false), 7, 10);
        DUE.isFraction("no leaf", x.home(0, 1, true), x.home(0, 1, false), 1, 1);
        int late = shortBoat(x, 9);
        DUE.isFraction("one leaf, and over", x.home(late, 0, true), x.home(late, 0, false), 7, 10);
        DUE.isFraction("to the leaves and back is too long", x.home(late, 1, true), x.home(late, 1, false), 0, 1);
        int later = shortBoat(x, 8);
        DUE.isFraction("none", x.home(later, 0, true), x.home(later, 0, false), 0, 1);
        Due.dig(x, "5LL/542");
        DUE.isFraction("over is too long: two leaves", x.home(late, 0, true), x.home(late, 0, false), 49, 100);
        // the short drain's lane first, to have the time for the long open place
        Due.dig(x, "14L/1D4");
        int six = shortBoat(x, 6);
        // 0: 1 4 is 5, no time for L; over to 1: 1 1 1 4 is 7; 1 1 1 1 2 is 6 with D and L
        DUE.isFraction("six seconds", x.home(six, 0, true), x.home(six, 0, false), 14, 25);
        DUE.isFraction("six seconds", x.home(six, 1, true), x.home(six, 1, false), 4, 5);
    }

    private static void first() {
        BoatsOfPaper x = new BoatsOfPaper();
        boatOf(x, 2);
        Due.dig(x, "1/1");
        DUE.is("one place", x.first(0, 0), -3);
        DUE.is("UNKNOWN ahead of STATE", x.first(0, 2), -1);
        DUE.is("UNKNOWN ahead of STATE", x.first(1, 0), -1);
        Due.dig(x, "11/11/11");
        for (int lane = 0; lane < 3; lane++) {
            DUE.is("its own if that is as good", x.first(0, lane), lane);
        }
        Due.dig(x, "11/1L/11");
        DUE.is("the one before", x.first(0, 1), 0);
        Due.dig(x, "1D/1L/11");
        DUE.is("the better one", x.first(0, 1), 2);
        DUE.is("not two lanes over", x.first(0, 0), 0);
        Due.dig(x, "11/1L/1D");
        DUE.is("the better one", x.first(0, 1), 0);
        DUE.is("the one before", x.first(0, 2), 2);
        Due.dig(x, "1L/1D/11");
        DUE.is("the one behind", x.first(0, 0), 1);
        DUE.is("the one behind", x.first(0, 1), 2);
        Due.dig(x, "1W/WD/11");
        DUE.is("the one behind", x.first(0, 0), 1);
        DUE.is("a wall at once", x.first(0, 1), 1);
        Due.dig(x, "W1/1W/11");
        DUE.is("like ones: the one before", x.first(0, 1), 0);
        DUE.is("a wall at once", x.first(0, 0), 0);
        Due.dig(x, "WL/11");
        DUE.is("a wall at once, but better beside it", x.first(0, 0), 0);
        int sunk = sunkBoat(x);
        Due.dig(x, "1L/11");
        DUE.is("no life", x.first(sunk, 0), 0);
        int one = shortBoat(x, 1);
        DUE.is("too short a life", x.first(one, 0), 0);
        int three = shortBoat(x, 3);
        DUE.is("3 seconds", x.first(three, 0), 1);
        int two = shortBoat(x, 2);
        DUE.is("2 seconds", x.first(two, 0), 0);
        DUE.is("its own, that it comes home in", x.first(two, 1), 1);
        firstInTime();
    }

    private static void firstInTime() {
        BoatsOfPaper x = new BoatsOfPaper();
        boatOf(x, 1);
        Due.dig(x, "8L/11");
        DUE.is("behind: just in time", x.first(0, 0), 1);
        Due.dig(x, "9D/11");
        DUE.is("behind: too late", x.first(0, 0), 0);
        Due.dig(x, "11/8L");
        DUE.is("before: just in time", x.first(0, 1), 0);
        Due.dig(x, "11/9D");
        DUE.is("before: too late", x.first(0, 1), 1);
    }

    private static void best() {
        BoatsOfPaper x = new BoatsOfPaper();
        boatOf(x, 1);
        DUE.is("best(0)", x.best(0), 0);
        DUE.is("best(1)", x.best(1), -1);
        Due.dig(x, "L/D/1");
        DUE.is("best(0)", x.best(0), 2);
        Due.dig(x, "L/1/1");
        DUE.is("of like ones the least", x.best(0), 1);
        Due.dig(x, "L1/D1/W1");
        DUE.is("best(0)", x.best(0), 1);
        Due.dig(x, "W/W/W");
        DUE.is("none comes home", x.best(0), 0);
        Due.dig(x, "99/19/91");
        DUE.is("the only one in time", x.best(0), 1);
        Due.dig(x, "L1/D1");
        int sunk = sunkBoat(x);
        DUE.is("no life", x.best(sunk), 0);
    }

    private static void whose() {
        BoatsOfPaper x = new BoatsOfPaper();
        Due.dig(x, "9LD/1W1/99D");
        DUE.is("no boats", x.whose(0, 0, 0, true), -1);
        boatOf(x, 1);
        DUE.isFraction("the only one", x.whose(0, 1, 0, true), x.whose(0, 1, 0, false), 1, 1);
        boatOf(x, 2);
        boatOf(x, 2);
        // at place 1 of lane 0: 10, 3 and 3 tenths; at place 2: 0, 14 and 14 hundredths
        DUE.isFraction("whose(0, 1, 0)", x.whose(0, 1, 0, true), x.whose(0, 1, 0, false), 5, 8);
        DUE.isFraction("whose(0, 1, 1)", x.whose(0, 1, 1, true), x.whose(0, 1, 1, false), 3, 16);
        DUE.isFraction("whose(0, 1, 2)", x.whose(0, 1, 2, true), x.whose(0, 1, 2, false), 3, 16);
        DUE.isFraction("whose(0, 2, 0)", x.whose(0, 2, 0, true), x.whose(0, 2, 0, false), 0, 1);
        DUE.isFraction("whose(0, 2, 2)", x.whose(0, 2, 2, true), x.whose(0, 2, 2, false), 1, 2);
        DUE.isFraction("at the wall", x.whose(1, 1, 1, true), x.whose(1, 1, 1, false), 1, 3);
        DUE.is("open", x.whose(0, 0, 0, true), -3);
        DUE.is("open", x.whose(0, 0, 0, false), -3);
        DUE.is("behind a wall", x.whose(1, 2, 0, true), -3);
        DUE.is("UNKNOWN ahead of STATE", x.whose(1, 2, 3, true), -1);
        DUE.is("whose(3, 0, 0)", x.whose(3, 0, 0, true), -1);
        DUE.is("whose(0, 3, 0)", x.whose(0, 3, 0, true), -1);
        x.mishap(0, 2);
        DUE.isFraction("leaves that do not hold", x.whose(0, 1, 0, true), x.whose(0, 1, 0, false), 1, 1);
        DUE.isFraction("leaves that do not hold", x.whose(0, 1, 1, true), x.whose(0, 1, 1, false), 0, 1);
    }

    private static void likeliest() {
        BoatsOfPaper x = new BoatsOfPaper();
        DUE.is("no boats", x.likeliest(0, 0), -3);
        DUE.is("no boats", x.likeliest(1, 0), -1);
        Due.dig(x, "9LD/1W1/99D");
        boatOf(x, 2);
        boatOf(x, 1);
        boatOf(x, 1);
        boatOf(x, 3);
        DUE.is("likeliest(0, 1)", x.likeliest(0, 1), 1);
        DUE.is("of like ones the least", x.likeliest(0, 2), 0);
        DUE.is("likeliest(2, 2)", x.likeliest(2, 2), 0);
        DUE.is("likeliest(2, 1)", x.likeliest(2, 1), 1);
        DUE.is("open", x.likeliest(0, 0), -3);
        DUE.is("behind a wall", x.likeliest(1, 2), -3);
        DUE.is("likeliest(0, 3)", x.likeliest(0, 3), -1);
        DUE.is("likeliest(3, 0)", x.likeliest(3, 0), -1);
        DUE.is("likeliest(0, -1)", x.likeliest(0, -1), -1);
        x.mishap(1, 1);
        Due.dig(x, "LD");
        DUE.is("a chance of a tenth", x.likeliest(0, 0), 0);
        Due.dig(x, "9LD/1W1/99D");
        sunkBoat(x);
        DUE.is("one that is under at once", x.likeliest(0, 0), 4);
        DUE.isFraction("one that is under at once", x.whose(0, 0, 4, true), x.whose(0, 0, 4, false), 1, 1);
    }

    private static void unknown() {
        BoatsOfPaper x = new BoatsOfPaper();
        boatOf(x, 1);
        Due.dig(x, "11/11");
        int[][] bad = {{-1, 0, 0}, {1, 0, 0}, {MOST, 0, 0}, {LEAST, 0, 0}, {0, -1, 0}, {0, 2, 0}, {0, MOST, 0},
            {0, LEAST, 0}, {0, 0, -1}, {0, 0, 2}, {0, 0, MOST}, {0, 0, LEAST}};
        for (int[] a : bad) {
            String at = "(" + a[0] + ", " + a[1] + ", " + a[2] + ")";
            DUE.is("ended" + at, x.ended(a[0], a[1], a[2], false), -1);
            DUE.is("whose" + at, x.whose(a[1], a[2], a[0], false), -1);
            if (a[2] == 0) {
                DUE.is("time" + at, x.time(a[0], a[1]), -1);
                DUE.is("far" + at, x.far(a[0], a[1], false), -1);
                DUE.is("home" + at, x.home(a[0], a[1], false), -1);
                DUE.is("first" + at, x.first(a[0], a[1]), -1);
            }
            if (a[0] != 0) {
                DUE.is("best" + at, x.best(a[0]), -1);
            } else {
                DUE.is("likeliest" + at, x.likeliest(a[1], a[2]), -1);
            }
        }
    }
}
