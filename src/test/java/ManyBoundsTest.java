/** The bounds that the fourth part of Terms and promises 30 to 37 name, each sentence by a test of its own. */
public final class ManyBoundsTest {
    private static final Due DUE = new Due("ManyBoundsTest");
    private static final int LEAST = Integer.MIN_VALUE;
    private static final int MOST = Integer.MAX_VALUE;

    public static void main(String[] args) {
        chosenByMany();
        secondsForEachOther();
        timeOfLanes();
        manyOutside();
        noneWhereThereIsAWall();
        allHaveWalls();
        nobodySooner();
        howManySplits();
        firstByTheMost();
        thereIsAlwaysOne();
        runsAtMost();
        runFar();
        runRefused();
        runsAreGone();
        redByLuck();
        redOfNone();
        redAsFar();
        slotsUnknown();
        slotNotKept();
        keptWithoutBoats();
        keptAsMuchAsCan();
        keptAsTheyWere();
        keptBoatsAndRunsAlone();
        countOf();
        countAtMost();
        countOutside();
        DUE.end();
    }

    private static BoatsOfPaper gutterOf(String signs) {
        BoatsOfPaper x = new BoatsOfPaper();
        DUE.is("gutter() of " + signs, Due.dig(x, signs) > 0 ? 1 : 0, 1);
        return x;
    }

    private static void chosen(String signs, int n, int c, int rests, int split) {
        BoatsOfPaper x = gutterOf(signs);
        DUE.is("rests(" + n + ", " + c + ") in " + signs, x.rests(n, c), rests);
        DUE.is("split(" + n + ", " + c + ") in " + signs, x.split(n, c), split);
    }

    /** Terms: "CHOSEN by n (1 to 9) are LANES without walls:" */
    private static void chosenByMany() {
        for (int n = 1; n <= 9; n++) {
            chosen("1", n, 9, 1, 100 * n);
            chosen("W/1", n, 0, 1, 10 * n);
            chosen("W/W/1", n, 1, 1, n);
        }
        chosen("1", 0, 9, -2, -2);
        chosen("1", 10, 9, -2, -2);
    }

    /** Terms: "and c (0 to 9) seconds more for each other one in the same LANE." */
    private static void secondsForEachOther() {
        // a second one in lane 0 takes 2 and c, in lane 1 it takes 11
        for (int c = 0; c <= 9; c++) {
            chosen("11/92", 2, c, c < 9 ? 1 : 2, 200);
        }
        // c of 0: it is as if each were alone
        chosen("1/2", 9, 0, 1, 900);
        chosen("2/1", 9, 0, 1, 90);
        // for each other one: the third takes 1 and 2 c, and not 1 and 3 c
        chosen("1/7", 3, 3, 2, 300);
        chosen("1/6", 3, 3, 1, 210);
        chosen("1/8", 3, 3, 1, 300);
        chosen("1", 1, -1, -2, -2);
        chosen("1", 1, 10, -2, -2);
    }

    /** Terms: "the TIME of each (as if it lived for ever)," */
    private static void timeOfLanes() {
        chosen("L/3", 1, 0, 1, 100);
        chosen("L/2", 1, 0, 2, 100);
        chosen("L/1", 1, 0, 1, 10);
        chosen("D/2", 1, 0, 1, 100);
        chosen("D/1", 1, 0, 2, 100);
        chosen("L/D", 1, 0, 1, 10);
        // 108 seconds: nobody lives so long without wax, and there is no BOAT at all
        chosen("999999999999/999999999999", 1, 0, 2, 100);
        chosen("999999999999/999999999998", 1, 0, 1, 10);
        // mishaps and BOATS do not count
        BoatsOfPaper x = gutterOf("L/D");
        x.mishap(9, 9);
        Due.lives(x, -1);
        DUE.is("split(1, 0)", x.split(1, 0), 10);
    }

    /** Promise 30: "OUTSIDE: n, c;" Promise 31: "OUTSIDE;" */
    private static void manyOutside() {
        for (int wrong : new int[] {-1, 10, LEAST, MOST}) {
            DUE.still("rests(" + wrong + ", 0)", Seen::half, x -> x.rests(wrong, 0), -2);
            DUE.still("rests(1, " + wrong + ")", Seen::half, x -> x.rests(1, wrong), -2);
            DUE.still("split(" + wrong + ", 0)", Seen::half, x -> x.split(wrong, 0), -2);
            DUE.still("split(1, " + wrong + ")", Seen::half, x -> x.split(1, wrong), -2);
            DUE.still("rests: OUTSIDE ahead of STATE", Seen::walled, x -> x.rests(9, wrong), -2);
            DUE.still("split: OUTSIDE ahead of STATE", Seen::walled, x -> x.split(wrong, 9), -2);
        }
        DUE.still("rests(0, 0)", Seen::half, x -> x.rests(0, 0), -2);
        DUE.still("split(0, 0)", Seen::half, x -> x.split(0, 0), -2);
        DUE.still("rests(0, 0): OUTSIDE ahead of STATE", Seen::walled, x -> x.rests(0, 0), -2);
        DUE.still("split(0, 0): OUTSIDE ahead of STATE", Seen::walled, x -> x.split(0, 0), -2);
        // the least and the greatest that are taken
        int[][] taken = {{1, 0}, {1, 9}, {9, 0}, {9, 9}};
        for (int[] one : taken) {
            DUE.still("rests(" + one[0] + ", " + one[1] + ")", Seen::half, x -> x.rests(one[0], one[1]), 1);
            DUE.still("split(" + one[0] + ", " + one[1] + ")", Seen::half, x -> x.split(one[0], one[1]), 100 * one[0]);
        }
    }

    /** Terms: "AT REST: a split of n (how many in each LANE; none where there is a wall)," */
    private static void noneWhereThereIsAWall() {
        // the first, the last, and one between; the other LANE takes longest
        for (String walled : new String[] {"W11", "1W1", "11W", "WWW"}) {
            chosen(walled + "/999", 9, 9, 1, 90);
            chosen("999/" + walled, 9, 9, 1, 900);
            chosen(walled + "/999/" + walled, 9, 9, 1, 90);
            chosen(walled + "/999/999", 2, 9, 1, 11);
        }
        // no LANE, none in it
        chosen("9", 9, 9, 1, 900);
        chosen("9/9", 9, 9, 2, 540);
        chosen("9/9/9", 9, 9, 1, 333);
    }

    /** Promise 30: "STATE: all LANES have walls." Promise 31: "STATE;" */
    private static void allHaveWalls() {
        for (String signs : new String[] {"W", "1W", "W1", "W/W", "W1/1W", "W/W/W", "1W1/11W/W11"}) {
            chosen(signs, 1, 0, -3, -3);
            chosen(signs, 9, 9, -3, -3);
        }
        for (String signs : new String[] {"1/W/W", "W/1/W", "W/W/1"}) {
            DUE.is("rests(1, 0) in " + signs, gutterOf(signs).rests(1, 0), 1);
        }
        DUE.still("rests(1, 0)", Seen::walled, x -> x.rests(1, 0), -3);
        DUE.still("split(9, 9)", Seen::walled, x -> x.split(9, 9), -3);
    }

    /** Terms: "by which nobody would come home sooner by going over to another LANE alone." As soon is not sooner. */
    private static void nobodySooner() {
        // two in lane 0 take 1 and c, one that goes over takes 3; two apart take 1 and 3, one that goes over 1 and c
        chosen("1/3", 2, 1, 1, 200);
        chosen("1/3", 2, 2, 2, 200);
        chosen("1/3", 2, 3, 1, 110);
        // the same from lane 1, and from lane 2
        chosen("3/1", 2, 1, 1, 20);
        chosen("3/1", 2, 2, 2, 110);
        chosen("3/1", 2, 3, 1, 110);
        chosen("9/3/1", 2, 1, 1, 2);
        chosen("9/3/1", 2, 2, 2, 11);
        chosen("9/3/1", 2, 3, 1, 11);
        // to lane 2 from lane 0, and back
        chosen("1/9/3", 2, 1, 1, 200);
        chosen("1/9/3", 2, 2, 2, 200);
        chosen("1/9/3", 2, 3, 1, 101);
    }

    /** Terms: "How many such there are;" Promise 30: "How many splits are AT REST." */
    private static void howManySplits() {
        for (int n = 1; n <= 9; n++) {
            chosen("5", n, 0, 1, 100 * n);
            chosen("5/5", n, 0, n + 1, 100 * n);
            chosen("5/5/5", n, 0, (n + 1) * (n + 2) / 2, 100 * n);
            // with a crowd the rest of a division goes to any of them
            int[] ways = {1, 3, 3};
            int each = n / 3;
            chosen("5/5/5", n, 1, ways[n % 3], 100 * (each + (n % 3 > 0 ? 1 : 0)) + 10 * (each + (n % 3 > 1 ? 1 : 0)) + each);
        }
    }

    /** Terms: "the first, by the most in LANE 0, then in LANE 1." Promise 31: "The first of these: 100 times how many in LANE 0, 10 times in LANE 1, in LANE 2." */
    private static void firstByTheMost() {
        chosen("1/1/1", 1, 1, 3, 100);
        chosen("1/1/1", 2, 1, 3, 110);
        chosen("2/1/1", 1, 1, 2, 10);
        chosen("1/2/1", 1, 1, 2, 100);
        chosen("2/2/1", 1, 1, 1, 1);
        chosen("2/1/1", 9, 0, 10, 90);
        chosen("9/9/9", 9, 0, 55, 900);
        chosen("9/9/9", 8, 9, 3, 332);
        chosen("9/9/9", 9, 9, 1, 333);
        chosen("9/9/1", 9, 0, 1, 9);
        chosen("9/1/9", 9, 0, 1, 90);
    }

    /** Promise 31: "NONE: there is none." There is one whenever a LANE is open: rests is 1 and more, and split is none of the refusals. */
    private static void thereIsAlwaysOne() {
        for (String text : new String[] {"1", "1/9", "9/1/W", "5/6/7", "7/6/5", "11/91/W1", "99/1L/DD"}) {
            BoatsOfPaper x = gutterOf(text);
            for (int n = 1; n <= 9; n++) {
                for (int c = 0; c <= 9; c++) {
                    int split = x.split(n, c);
                    DUE.is("rests(" + n + ", " + c + ") in " + text, x.rests(n, c) >= 1 ? 1 : 0, 1);
                    DUE.is("split(" + n + ", " + c + ") in " + text, split / 100 + split / 10 % 10 + split % 10, n);
                }
            }
        }
    }

    /** Terms: "RUNS, 12 at most:" Promise 32: "A RUN: how many there are.", Promise 32: "FULL: 12." */
    private static void runsAtMost() {
        BoatsOfPaper x = new BoatsOfPaper();
        for (int k = 1; k <= 12; k++) {
            DUE.is("run " + k, x.run(k, k % 2 == 0), k);
        }
        DUE.is("the thirteenth", x.run(1, true), -4);
        DUE.is("the fourteenth", x.run(1, false), -4);
        DUE.is("count(3)", x.count(3), 12);
        DUE.is("count(4)", x.count(4), 6);
        DUE.is("unrun()", x.unrun(), 12);
        DUE.is("the first again", x.run(1, false), 1);
        DUE.still("the thirteenth", Seen::full, y -> y.run(0, true), -4);
        DUE.still("the thirteenth", Seen::full, y -> y.run(99, false), -4);
        DUE.still("OUTSIDE ahead of FULL", Seen::full, y -> y.run(100, true), -2);
        DUE.still("OUTSIDE ahead of FULL", Seen::full, y -> y.run(-1, false), -2);
    }

    /** Terms: "how far (0 to 99), red or not." */
    private static void runFar() {
        for (int far : new int[] {0, 1, 98, 99}) {
            for (boolean red : new boolean[] {true, false}) {
                BoatsOfPaper x = new BoatsOfPaper();
                DUE.is("run(" + far + ", " + red + ")", x.run(far, red), 1);
                DUE.is("count(3)", x.count(3), 1);
                DUE.is("count(4)", x.count(4), red ? 1 : 0);
            }
        }
        // 99 goes farther than 98, and 0 not as far as 1
        BoatsOfPaper x = new BoatsOfPaper();
        x.run(99, true);
        x.run(98, false);
        DUE.isFraction("99 and 98", x.red(true), x.red(false), 1, 2);
        BoatsOfPaper y = new BoatsOfPaper();
        y.run(0, false);
        y.run(1, true);
        DUE.isFraction("1 and 0", y.red(true), y.red(false), 1, 2);
    }

    /** Promise 32: "OUTSIDE;" */
    private static void runRefused() {
        for (int far : new int[] {-1, 100, -99, 256, LEAST, MOST}) {
            for (boolean red : new boolean[] {true, false}) {
                DUE.still("run(" + far + ", " + red + ")", Seen::half, x -> x.run(far, red), -2);
                DUE.still("run(" + far + ", " + red + ")", BoatsOfPaper::new, x -> x.run(far, red), -2);
            }
        }
    }

    /** Promise 33: "RUNS are gone: how many there were." */
    private static void runsAreGone() {
        for (int many : new int[] {0, 1, 11, 12}) {
            BoatsOfPaper x = new BoatsOfPaper();
            for (int k = 0; k < many; k++) {
                x.run(9, true);
            }
            DUE.is("unrun() of " + many, x.unrun(), many);
            DUE.is("count(3) behind it", x.count(3), 0);
            DUE.is("count(4) behind it", x.count(4), 0);
            DUE.isFraction("red behind it", x.red(true), x.red(false), 1, 1);
            DUE.is("unrun() once more", x.unrun(), 0);
            DUE.is("run(0, false) behind it", x.run(0, false), 1);
            DUE.is("count(4) behind that", x.count(4), 0);
        }
        BoatsOfPaper x = Seen.half();
        DUE.is("unrun()", x.unrun(), 4);
        DUE.is("BOATS stay", x.count(1), 2);
        DUE.is("COINS stay", x.count(2), 3);
        DUE.is("THE TEXT stays", x.count(0), 14);
        DUE.is("SLOTS stay", x.again(0), 1);
        DUE.is("the kept ones stay", x.count(3), 2);
    }

    /** Terms: "RED by luck: the chance that, of all ways to deal as many red ones to them," Promise 34: "RED by luck." */
    private static void redByLuck() {
        // the k farthest of 12 are red: one way of all
        int[] ways = {1, 12, 66, 220, 495, 792, 924, 792, 495, 220, 66, 12, 1};
        for (int reds = 0; reds <= 12; reds++) {
            BoatsOfPaper x = new BoatsOfPaper();
            BoatsOfPaper y = new BoatsOfPaper();
            for (int k = 0; k < 12; k++) {
                x.run(99 - k, k < reds);
                y.run(k, k < reds);
            }
            DUE.isFraction("the " + reds + " farthest", x.red(true), x.red(false), 1, ways[reds]);
            DUE.isFraction("the " + reds + " least far", y.red(true), y.red(false), 1, 1);
        }
        DUE.still("red(true)", Seen::half, x -> x.red(true), 1);
        DUE.still("red(false)", Seen::half, x -> x.red(false), 3);
    }

    /** Terms: "of all ways to deal as many red ones to them": of none there is one way. */
    private static void redOfNone() {
        BoatsOfPaper x = new BoatsOfPaper();
        DUE.isFraction("no runs", x.red(true), x.red(false), 1, 1);
        x.run(0, false);
        DUE.isFraction("one, not red", x.red(true), x.red(false), 1, 1);
        x.run(99, false);
        DUE.isFraction("two, not red", x.red(true), x.red(false), 1, 1);
        x.unrun();
        x.run(0, true);
        DUE.isFraction("one, red", x.red(true), x.red(false), 1, 1);
        x.run(99, true);
        DUE.isFraction("two, red", x.red(true), x.red(false), 1, 1);
    }

    /** Terms: "all red ones together go as far or farther." */
    private static void redAsFar() {
        int[][] due = {{0, 99, 1, 1}, {49, 50, 1, 1}, {50, 50, 1, 1}, {51, 50, 1, 2}, {99, 0, 1, 2}, {0, 0, 1, 1}};
        for (int[] one : due) {
            BoatsOfPaper x = new BoatsOfPaper();
            x.run(one[0], true);
            x.run(one[1], false);
            DUE.isFraction("red " + one[0] + ", not " + one[1], x.red(true), x.red(false), one[2], one[3]);
        }
        // two red ones together: 10 and 1 of 10, 1, 5, and 5, 6 or 7; of six ways those with 11 and more count
        int[][] last = {{5, 1, 2}, {6, 2, 3}, {7, 2, 3}};
        for (int[] one : last) {
            BoatsOfPaper x = new BoatsOfPaper();
            x.run(10, true);
            x.run(1, true);
            x.run(5, false);
            x.run(one[0], false);
            DUE.isFraction("10 and 1, not 5 and " + one[0], x.red(true), x.red(false), one[1], one[2]);
        }
    }

    /** Terms: "SLOTS 0 to 1" Promise 35: "UNKNOWN." Promise 36: "UNKNOWN;" */
    private static void slotsUnknown() {
        for (int slot : new int[] {-1, 2, 3, LEAST, MOST}) {
            DUE.still("keep(" + slot + ")", Seen::half, x -> x.keep(slot), -1);
            DUE.still("again(" + slot + ")", Seen::half, x -> x.again(slot), -1);
            DUE.still("again(" + slot + ") of none yet: UNKNOWN, not STATE", BoatsOfPaper::new, x -> x.again(slot), -1);
            DUE.still("keep(" + slot + ")", Seen::full, x -> x.keep(slot), -1);
        }
        for (int slot = 0; slot <= 1; slot++) {
            BoatsOfPaper x = new BoatsOfPaper();
            x.boat(9, 9, 1, 1);
            DUE.is("keep(" + slot + ")", x.keep(slot), 1);
            DUE.is("again(" + slot + ")", x.again(slot), 1);
            DUE.is("the other one", x.again(1 - slot), -3);
        }
    }

    /** Promise 36: "STATE: none were kept." */
    private static void slotNotKept() {
        DUE.still("again(1)", Seen::half, x -> x.again(1), -3);
        DUE.still("again(0)", BoatsOfPaper::new, x -> x.again(0), -3);
        DUE.still("again(1)", BoatsOfPaper::new, x -> x.again(1), -3);
        DUE.still("again(0)", () -> {
            BoatsOfPaper x = new BoatsOfPaper();
            x.boat(9, 9, 1, 1);
            x.run(1, true);
            x.keep(1);
            x.keep(-1);
            return x;
        }, x -> x.again(0), -3);
    }

    /** Promise 35: "They are kept: how many BOATS." None at all are kept too, and are so again. */
    private static void keptWithoutBoats() {
        BoatsOfPaper x = new BoatsOfPaper();
        DUE.is("keep(0) of nothing", x.keep(0), 0);
        x.run(7, true);
        DUE.is("keep(1) of a run", x.keep(1), 0);
        x.boat(9, 9, 1, 1);
        DUE.is("again(0)", x.again(0), 0);
        DUE.is("count(1)", x.count(1), 0);
        DUE.is("count(3)", x.count(3), 0);
        DUE.is("again(1)", x.again(1), 0);
        DUE.is("count(3)", x.count(3), 1);
        DUE.is("count(4)", x.count(4), 1);
        for (int many = 1; many <= 6; many++) {
            x.boat(9, 9, 1, 1);
            DUE.is("keep(0) of " + many, x.keep(0), many);
            DUE.is("again(0) of " + many, x.again(0), many);
        }
        DUE.is("the seventh", x.boat(9, 9, 1, 1), -4);
    }

    /** Promise 36: "They are as they were kept: how many BOATS." With all BOATS, COINS and RUNS that there can be. */
    private static void keptAsMuchAsCan() {
        BoatsOfPaper x = new BoatsOfPaper();
        for (int boat = 0; boat < 6; boat++) {
            x.boat(20, 20, 9, 1 + boat);
            x.wax(boat, 99 - boat, 9 - boat);
            for (int k = 0; k < 8; k++) {
                x.coin(boat, k, 7 - k, 99 - k - boat);
            }
        }
        for (int k = 0; k < 12; k++) {
            x.run(99 - k, k < 6);
        }
        DUE.is("keep(1)", x.keep(1), 6);
        for (int boat = 0; boat < 6; boat++) {
            x.wax(boat, 0, 0);
            x.empty(boat);
        }
        x.unrun();
        DUE.is("again(1)", x.again(1), 6);
        DUE.is("count(1)", x.count(1), 6);
        DUE.is("count(2)", x.count(2), 48);
        DUE.is("count(3)", x.count(3), 12);
        DUE.is("count(4)", x.count(4), 6);
        DUE.isFraction("red", x.red(true), x.red(false), 1, 924);
        for (int boat = 0; boat < 6; boat++) {
            int a = 18 - 2 * boat;
            int m = 0;
            int n = 0;
            for (int k = 0; k < 8; k++) {
                m += (99 - k - boat) * (2 * k + 1 - a);
                n += (99 - k - boat) * (2 * (7 - k) + 1 - a);
            }
            int[] due = {20, 20, 9, 1 + boat, a, a, 99 - boat, 9 - boat, 8, 100000 + m, 100000 + n};
            for (int what = 0; what < due.length; what++) {
                DUE.is("about(" + boat + ", " + what + ")", x.about(boat, what), due[what]);
            }
            DUE.is("the ninth coin", x.coin(boat, 0, 0, 1), -4);
        }
        DUE.is("the thirteenth run", x.run(1, true), -4);
    }

    /** Promise 36: "They are as they were kept": again and again, whatever came since; keeping anew takes the place. */
    private static void keptAsTheyWere() {
        BoatsOfPaper x = new BoatsOfPaper();
        x.boat(9, 9, 1, 1);
        x.coin(0, 0, 0, 5);
        x.run(3, true);
        x.keep(0);
        for (int time = 0; time < 3; time++) {
            x.boat(8, 8, 2, 1);
            x.coin(0, 1, 1, 5);
            x.coin(1, 1, 1, 5);
            x.wax(0, 50 + time, 5);
            x.run(4, false);
            DUE.is("again(0)", x.again(0), 1);
            DUE.is("count(1)", x.count(1), 1);
            DUE.is("count(2)", x.count(2), 1);
            DUE.is("count(3)", x.count(3), 1);
            DUE.is("drinks", x.about(0, 6), 10);
            DUE.is("wax", x.about(0, 7), 0);
            DUE.is("about(1, 0)", x.about(1, 0), -1);
        }
        x.empty(0);
        x.unrun();
        DUE.is("keep(0) anew", x.keep(0), 1);
        x.coin(0, 1, 1, 5);
        DUE.is("again(0)", x.again(0), 1);
        DUE.is("count(2)", x.count(2), 0);
        DUE.is("count(3)", x.count(3), 0);
        // asking what is kept leaves what lies before one
        DUE.still("keep(0)", () -> {
            BoatsOfPaper y = Seen.half();
            y.keep(0);
            return y;
        }, y -> y.keep(0), 2);
    }

    /** Terms: "keep BOATS and RUNS." Neither THE TEXT, nor THE GUTTER, nor mishaps. */
    private static void keptBoatsAndRunsAlone() {
        BoatsOfPaper x = Seen.half();
        x.mishap(7, 8);
        Due.dig(x, "12/34/56");
        x.write(1, 'X');
        DUE.is("again(0)", x.again(0), 1);
        DUE.is("count(0)", x.count(0), 9);
        DUE.is("fault()", x.fault(), 8);
        DUE.is("place(2, 1)", x.place(2, 1), 6);
        DUE.is("place(0, 2)", x.place(0, 2), -1);
        DUE.is("mishap(0, 0)", x.mishap(0, 0), 78);
        DUE.is("count(3)", x.count(3), 2);
    }

    /** Promise 37: "0 bytes of THE TEXT, 1 BOATS, 2 COINS of all, 3 RUNS, 4 red ones." */
    private static void countOf() {
        int[] half = {14, 2, 3, 4, 2};
        int[] full = {40, 6, 8, 12, 4};
        for (int k = 0; k < 5; k++) {
            int what = k;
            DUE.still("count(" + what + ") of none yet", BoatsOfPaper::new, x -> x.count(what), 0);
            DUE.still("count(" + what + ")", Seen::half, x -> x.count(what), half[what]);
            DUE.still("count(" + what + ")", Seen::full, x -> x.count(what), full[what]);
        }
    }

    /** Promise 37: "2 COINS of all, 3 RUNS, 4 red ones": as many as there can be, and one that is refused. */
    private static void countAtMost() {
        BoatsOfPaper x = new BoatsOfPaper();
        for (int k = 1; k <= 41; k++) {
            x.write(1, 0);
            DUE.is("count(0)", x.count(0), Math.min(40, k));
        }
        for (int boat = 0; boat < 6; boat++) {
            x.boat(9, 9, 1, 1);
            DUE.is("count(1)", x.count(1), boat + 1);
            for (int k = 1; k <= 9; k++) {
                x.coin(boat, 0, 0, 1);
                DUE.is("count(2)", x.count(2), 8 * boat + Math.min(8, k));
            }
        }
        x.boat(9, 9, 1, 1);
        DUE.is("count(1)", x.count(1), 6);
        for (int k = 1; k <= 13; k++) {
            x.run(1, true);
            DUE.is("count(3)", x.count(3), Math.min(12, k));
            DUE.is("count(4)", x.count(4), Math.min(12, k));
        }
    }

    /** Promise 37: "OUTSIDE." */
    private static void countOutside() {
        for (int what : new int[] {-1, 5, 6, LEAST, MOST}) {
            DUE.still("count(" + what + ")", BoatsOfPaper::new, x -> x.count(what), -2);
            DUE.still("count(" + what + ")", Seen::half, x -> x.count(what), -2);
        }
    }
}
