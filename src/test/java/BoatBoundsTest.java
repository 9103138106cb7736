/** The bounds that the second part of Terms and promises 8 to 21 name, each sentence by a test of its own. */
public final class BoatBoundsTest {
    private static final Due DUE = new Due("BoatBoundsTest");
    private static final int LEAST = Integer.MIN_VALUE;
    private static final int MOST = Integer.MAX_VALUE;

    public static void main(String[] args) {
        numbersOfBoats();
        boatFull();
        lengthAndWidth();
        thickness();
        leastRim();
        greatestRim();
        rimsThatWrapAround();
        cellsAlongAndAcross();
        atFirst();
        drinksAndWax();
        waxRefused();
        coinsAtMost();
        coinCells();
        coinWeights();
        coinRefused();
        emptied();
        aboutOf();
        moments();
        seconds();
        weightAtSeconds();
        depth();
        corner();
        underTheRim();
        underByTheCorner();
        softFrom();
        lifeTillUnder();
        lifeNone();
        lifeCounts();
        bearsRefused();
        bearsJust();
        bearsNone();
        bearsWithoutItsCoins();
        rimRefused();
        rimOfLikeOnes();
        ordersWithout();
        ordersNeverUnder();
        ordersOfEight();
        orderBounds();
        orderNone();
        needsSeconds();
        needsLeast();
        needsNone();
        DUE.end();
    }

    private static BoatsOfPaper with(int l, int w, int t, int h) {
        BoatsOfPaper x = new BoatsOfPaper();
        DUE.is("boat(" + l + ", " + w + ", " + t + ", " + h + ")", x.boat(l, w, t, h), 0);
        return x;
    }

    /** Terms: "BOATS 0 to 5:" Promise 8: "A BOAT: its number." */
    private static void numbersOfBoats() {
        BoatsOfPaper x = new BoatsOfPaper();
        for (int many = 0; many <= 6; many++) {
            DUE.is("count(1)", x.count(1), many);
            for (int boat = 0; boat <= 6; boat++) {
                DUE.is("about(" + boat + ", 0) of " + many, x.about(boat, 0), boat < many ? 10 + boat : -1);
            }
            DUE.is("about(-1, 0) of " + many, x.about(-1, 0), -1);
            DUE.is("boat " + many, x.boat(10 + many, 9, 1, 1), many < 6 ? many : -4);
        }
    }

    /** Promise 8: "FULL: 6." */
    private static void boatFull() {
        BoatsOfPaper x = new BoatsOfPaper();
        for (int k = 0; k < 5; k++) {
            x.boat(9, 9, 1, 1);
        }
        DUE.is("the sixth", x.boat(3, 3, 1, 1), 5);
        DUE.is("the seventh", x.boat(3, 3, 1, 1), -4);
        DUE.is("the eighth", x.boat(20, 20, 9, 9), -4);
        DUE.still("the seventh", Seen::full, y -> y.boat(20, 20, 9, 9), -4);
        DUE.still("OUTSIDE ahead of FULL", Seen::full, y -> y.boat(2, 20, 9, 9), -2);
        DUE.still("OUTSIDE ahead of FULL", Seen::full, y -> y.boat(20, 20, 10, 9), -2);
        DUE.still("OUTSIDE ahead of FULL", Seen::full, y -> y.boat(20, 20, 9, 10), -2);
        // where five were kept there is room for one again
        BoatsOfPaper z = new BoatsOfPaper();
        for (int k = 0; k < 6; k++) {
            z.boat(9, 9, 1, 1);
            z.keep(k == 4 ? 0 : 1);
        }
        z.again(0);
        DUE.is("the sixth again", z.boat(9, 9, 1, 1), 5);
        z.again(1);
        DUE.is("the seventh", z.boat(9, 9, 1, 1), -4);
    }

    /** Terms: "of a sheet of length l and width w (3 to 20 each)," Promise 8: "OUTSIDE: l, w, t, h (as told);" */
    private static void lengthAndWidth() {
        for (int size : new int[] {3, 4, 19, 20}) {
            DUE.is("length " + size, with(size, 10, 1, 1).about(0, 0), size);
            DUE.is("width " + size, with(10, size, 1, 1).about(0, 1), size);
            DUE.is("both " + size, with(size, size, 1, 1).about(0, 4), size - 2);
        }
        for (int size : new int[] {2, 21, 1, 0, -1, -3, LEAST, LEAST + 1, MOST}) {
            DUE.still("length " + size, Seen::half, x -> x.boat(size, 10, 1, 1), -2);
            DUE.still("width " + size, Seen::half, x -> x.boat(10, size, 1, 1), -2);
            DUE.still("both " + size, BoatsOfPaper::new, x -> x.boat(size, size, 1, 1), -2);
        }
    }

    /** Terms: "thick by t (1 to 9)," */
    private static void thickness() {
        for (int t = 1; t <= 9; t++) {
            DUE.is("thick by " + t, with(5, 5, t, 1).about(0, 2), t);
        }
        for (int t : new int[] {0, 10, -1, LEAST, MOST}) {
            DUE.still("thick by " + t, Seen::half, x -> x.boat(5, 5, t, 1), -2);
        }
    }

    /** Terms: "with a rim h (1 and more;" */
    private static void leastRim() {
        DUE.is("rim 1", with(20, 20, 1, 1).about(0, 3), 1);
        DUE.is("rim 2", with(20, 20, 1, 2).about(0, 3), 2);
        for (int h : new int[] {0, -1, -2, -9}) {
            DUE.still("rim " + h, Seen::half, x -> x.boat(20, 20, 1, h), -2);
        }
    }

    /** Terms: "l and w less 2 h are 1 at least):" */
    private static void greatestRim() {
        for (int size = 3; size <= 20; size++) {
            int most = (size - 1) / 2;
            DUE.is("rim of length " + size, with(size, 20, 1, most).about(0, 4), size - 2 * most);
            DUE.is("rim of width " + size, with(20, size, 1, most).about(0, 5), size - 2 * most);
            DUE.is("too great for length " + size, new BoatsOfPaper().boat(size, 20, 1, most + 1), -2);
            DUE.is("too great for width " + size, new BoatsOfPaper().boat(20, size, 1, most + 1), -2);
        }
        DUE.is("1 is left", with(5, 5, 1, 2).about(0, 4), 1);
        DUE.still("0 are left", Seen::half, x -> x.boat(6, 7, 1, 3), -2);
        DUE.still("0 are left", Seen::half, x -> x.boat(7, 6, 1, 3), -2);
        DUE.still("-1 is left", Seen::half, x -> x.boat(5, 7, 1, 3), -2);
        DUE.still("-1 is left", Seen::half, x -> x.boat(7, 5, 1, 3), -2);
        DUE.is("the greatest of all", with(20, 20, 1, 9).about(0, 3), 9);
        DUE.still("greater than all", Seen::half, x -> x.boat(20, 20, 1, 10), -2);
    }

    /** Terms: "(1 and more; l and w less 2 h are 1 at least)": what doubles to a small number is no rim either. */
    private static void rimsThatWrapAround() {
        for (int h : Due.WILD) {
            DUE.still("rim " + h, Seen::half, x -> x.boat(20, 20, 1, h), -2);
            DUE.still("bears of rim " + h, Seen::half, x -> x.bears(0, h, 1), -2);
        }
    }

    /** Terms: "a is l less 2 h, b is w less 2 h." */
    private static void cellsAlongAndAcross() {
        int[][] due = {{3, 20, 1, 1, 18}, {20, 3, 1, 18, 1}, {20, 20, 1, 18, 18}, {20, 19, 9, 2, 1}, {19, 20, 9, 1, 2},
            {3, 3, 1, 1, 1}, {12, 9, 3, 6, 3}};
        for (int[] one : due) {
            BoatsOfPaper x = with(one[0], one[1], 1, one[2]);
            DUE.is("a", x.about(0, 4), one[3]);
            DUE.is("b", x.about(0, 5), one[4]);
        }
    }

    /** Terms: "At first it is not waxed" and drinks 10; no COINS lie in it. */
    private static void atFirst() {
        BoatsOfPaper x = with(9, 9, 1, 1);
        DUE.is("wax", x.about(0, 7), 0);
        DUE.is("drinks", x.about(0, 6), 10);
        DUE.is("coins", x.about(0, 8), 0);
        DUE.is("it had no wax", x.wax(0, 5, 7), 0);
        x.coin(0, 1, 1, 1);
        // the next one is as at first too, and so is one that comes where another was
        x.boat(9, 9, 1, 1);
        DUE.is("wax of the next", x.about(1, 7), 0);
        DUE.is("drinks of the next", x.about(1, 6), 10);
        BoatsOfPaper y = new BoatsOfPaper();
        y.keep(1);
        y.boat(9, 9, 1, 1);
        y.wax(0, 99, 9);
        y.coin(0, 0, 0, 9);
        y.again(1);
        y.boat(9, 9, 1, 1);
        DUE.is("wax of one that comes later", y.about(0, 7), 0);
        DUE.is("drinks of one that comes later", y.about(0, 6), 10);
        DUE.is("coins of one that comes later", y.about(0, 8), 0);
    }

    /** Terms: "(0 to 9), and drinks 10 a second (0 to 99)." Promise 9: "What it drinks, and its wax: how much wax it had." */
    private static void drinksAndWax() {
        BoatsOfPaper x = with(9, 9, 1, 1);
        int had = 0;
        for (int wax = 0; wax <= 9; wax++) {
            int drinks = 11 * wax;
            DUE.is("wax(0, " + drinks + ", " + wax + ")", x.wax(0, drinks, wax), had);
            DUE.is("drinks", x.about(0, 6), drinks);
            DUE.is("wax", x.about(0, 7), wax);
            had = wax;
        }
        for (int drinks : new int[] {0, 1, 98, 99}) {
            DUE.is("wax(0, " + drinks + ", 9)", x.wax(0, drinks, 9), 9);
            DUE.is("drinks", x.about(0, 6), drinks);
        }
        DUE.is("back to 0", x.wax(0, 0, 0), 9);
    }

    /** Promise 9: "UNKNOWN; OUTSIDE." */
    private static void waxRefused() {
        for (int wrong : new int[] {-1, LEAST, MOST}) {
            DUE.still("drinks " + wrong, Seen::half, x -> x.wax(0, wrong, 0), -2);
            DUE.still("wax " + wrong, Seen::half, x -> x.wax(0, 0, wrong), -2);
            DUE.still("both " + wrong, Seen::half, x -> x.wax(1, wrong, wrong), -2);
            DUE.still("boat " + wrong, Seen::half, x -> x.wax(wrong, 0, 0), -1);
        }
        DUE.still("drinks 100", Seen::half, x -> x.wax(0, 100, 9), -2);
        DUE.still("wax 10", Seen::half, x -> x.wax(0, 99, 10), -2);
        DUE.still("boat 2 of 2", Seen::half, x -> x.wax(2, 1, 1), -1);
        DUE.still("UNKNOWN ahead of OUTSIDE", Seen::half, x -> x.wax(2, 100, 10), -1);
        DUE.still("boat 6", Seen::full, x -> x.wax(6, 1, 1), -1);
        DUE.still("none yet", BoatsOfPaper::new, x -> x.wax(0, 1, 1), -1);
    }

    /** Terms: "COINS (8 at most)" Promise 10: "A COIN: its number.", Promise 10: "FULL: 8." */
    private static void coinsAtMost() {
        BoatsOfPaper x = with(20, 20, 1, 1);
        x.boat(20, 20, 1, 1);
        for (int k = 0; k < 8; k++) {
            DUE.is("coin " + k, x.coin(0, k, k, 1 + k), k);
        }
        DUE.is("the ninth", x.coin(0, 0, 0, 1), -4);
        DUE.is("about(0, 8)", x.about(0, 8), 8);
        DUE.is("the other's first", x.coin(1, 0, 0, 1), 0);
        DUE.is("count(2)", x.count(2), 9);
        DUE.is("empty(0)", x.empty(0), 8);
        DUE.is("the first again", x.coin(0, 0, 0, 1), 0);
        DUE.still("the ninth", Seen::full, y -> y.coin(0, 0, 0, 99), -4);
    }

    /** Terms: "lie in CELLS of it, i (0 to a less 1), j (0 to b less 1)," */
    private static void coinCells() {
        int[][] sheets = {{3, 3, 1}, {7, 10, 2}, {10, 7, 2}, {20, 20, 1}, {20, 3, 1}, {3, 20, 1}};
        for (int[] sheet : sheets) {
            int a = sheet[0] - 2 * sheet[2];
            int b = sheet[1] - 2 * sheet[2];
            int[][] corners = {{0, 0}, {a - 1, 0}, {0, b - 1}, {a - 1, b - 1}};
            BoatsOfPaper x = with(sheet[0], sheet[1], 1, sheet[2]);
            for (int k = 0; k < 4; k++) {
                DUE.is("coin in " + corners[k][0] + " " + corners[k][1], x.coin(0, corners[k][0], corners[k][1], 1), k);
            }
            int[][] outside = {{-1, 0}, {0, -1}, {-1, -1}, {a, 0}, {0, b}, {a, b}, {a, b - 1}, {a - 1, b}, {a - 1, -1}, {-1, b - 1}};
            for (int[] at : outside) {
                DUE.is("coin in " + at[0] + " " + at[1], x.coin(0, at[0], at[1], 1), -2);
            }
            DUE.is("about(0, 8)", x.about(0, 8), 4);
            DUE.is("the same cell again", x.coin(0, 0, 0, 1), 4);
        }
    }

    /** Terms: "and weigh something (1 to 99)." */
    private static void coinWeights() {
        int[] weights = {1, 2, 98, 99};
        BoatsOfPaper x = with(3, 3, 1, 1);
        for (int k = 0; k < weights.length; k++) {
            DUE.is("a coin of " + weights[k], x.coin(0, 0, 0, weights[k]), k);
        }
        // 9 of paper and 200
        DUE.isFraction("deep(0, 0)", x.deep(0, 0, true), x.deep(0, 0, false), 209, 100);
    }

    /** Promise 10: "UNKNOWN: boat; OUTSIDE: i, j, weight;" */
    private static void coinRefused() {
        for (int wrong : new int[] {-1, LEAST, MOST}) {
            DUE.still("i " + wrong, Seen::half, x -> x.coin(0, wrong, 0, 1), -2);
            DUE.still("j " + wrong, Seen::half, x -> x.coin(0, 0, wrong, 1), -2);
            DUE.still("weight " + wrong, Seen::half, x -> x.coin(0, 0, 0, wrong), -2);
            DUE.still("boat " + wrong, Seen::half, x -> x.coin(wrong, 0, 0, 1), -1);
        }
        // a 6, b 3
        DUE.still("i 6", Seen::half, x -> x.coin(0, 6, 0, 1), -2);
        DUE.still("j 3", Seen::half, x -> x.coin(0, 0, 3, 1), -2);
        DUE.still("weight 0", Seen::half, x -> x.coin(0, 0, 0, 0), -2);
        DUE.still("weight 100", Seen::half, x -> x.coin(0, 0, 0, 100), -2);
        DUE.still("boat 2 of 2", Seen::half, x -> x.coin(2, 0, 0, 1), -1);
        DUE.still("none yet", BoatsOfPaper::new, x -> x.coin(0, 0, 0, 1), -1);
        DUE.still("UNKNOWN ahead of OUTSIDE", Seen::full, x -> x.coin(6, -1, -1, 0), -1);
        DUE.still("OUTSIDE ahead of FULL", Seen::full, x -> x.coin(0, -1, 0, 1), -2);
        DUE.still("OUTSIDE ahead of FULL", Seen::full, x -> x.coin(0, 0, 11, 1), -2);
        DUE.still("OUTSIDE ahead of FULL", Seen::full, x -> x.coin(0, 0, 0, 100), -2);
    }

    /** Promise 11: "All COINS are taken out of it: how many there were. UNKNOWN." */
    private static void emptied() {
        BoatsOfPaper x = with(9, 9, 1, 1);
        x.boat(9, 9, 1, 1);
        x.coin(1, 0, 0, 1);
        for (int many : new int[] {0, 1, 7, 8}) {
            for (int k = 0; k < many; k++) {
                x.coin(0, k % 7, 0, 99);
            }
            DUE.is("empty(0) of " + many, x.empty(0), many);
            DUE.is("about(0, 8)", x.about(0, 8), 0);
            DUE.is("about(0, 9)", x.about(0, 9), 100000);
            DUE.is("orders(0)", x.orders(0), 1);
            DUE.is("empty(0) once more", x.empty(0), 0);
        }
        DUE.is("the other's stay", x.about(1, 8), 1);
        for (int boat : new int[] {-1, 2, 5, 6, LEAST, MOST}) {
            DUE.still("empty(" + boat + ")", Seen::half, y -> y.empty(boat), -1);
        }
        DUE.still("empty(6)", Seen::full, y -> y.empty(6), -1);
        DUE.still("empty(0) of none yet", BoatsOfPaper::new, y -> y.empty(0), -1);
    }

    /** Promise 12: "Of a BOAT l (0), w (1), t (2), h (3), a (4), b (5), what it drinks (6), wax (7), COINS (8), m (9) and n (10) and 100000 each. UNKNOWN; OUTSIDE." */
    private static void aboutOf() {
        int[] due = {12, 9, 4, 3, 6, 3, 17, 6, 2, 100361, 100136};
        for (int k = 0; k < due.length; k++) {
            int what = k;
            DUE.still("about(0, " + what + ")", Seen::half, x -> x.about(0, what), due[what]);
        }
        for (int what : new int[] {-1, 11, 12, LEAST, MOST}) {
            DUE.still("about(0, " + what + ")", Seen::half, x -> x.about(0, what), -2);
            DUE.still("about(2, " + what + "): UNKNOWN ahead of OUTSIDE", Seen::half, x -> x.about(2, what), -1);
        }
        for (int boat : new int[] {-1, 2, 6, LEAST, MOST}) {
            DUE.is("about(" + boat + ", 0)", Seen.half().about(boat, 0), -1);
            DUE.is("about(" + boat + ", 10)", Seen.half().about(boat, 10), -1);
        }
        DUE.is("about(0, 0) of none yet", new BoatsOfPaper().about(0, 0), -1);
    }

    /** Terms: "MOMENTS: m the sum over COINS of what they weigh times (2 i and 1 less a), n likewise of (2 j and 1 less b)." */
    private static void moments() {
        DUE.is("m without coins", with(20, 20, 1, 1).about(0, 9), 100000);
        DUE.is("n without coins", with(20, 20, 1, 1).about(0, 10), 100000);
        BoatsOfPaper least = with(20, 20, 1, 1);
        BoatsOfPaper most = with(20, 20, 1, 1);
        for (int k = 0; k < 8; k++) {
            least.coin(0, 0, 0, 99);
            most.coin(0, 17, 17, 99);
        }
        // 792 by 17 to one side
        DUE.is("the least m", least.about(0, 9), 86536);
        DUE.is("the least n", least.about(0, 10), 86536);
        DUE.is("the greatest m", most.about(0, 9), 113464);
        DUE.is("the greatest n", most.about(0, 10), 113464);
        // a 1, b 2: along there is the midst alone, across there are two ends
        BoatsOfPaper narrow = with(3, 4, 1, 1);
        narrow.coin(0, 0, 0, 7);
        DUE.is("m in the midst", narrow.about(0, 9), 100000);
        DUE.is("n at one end", narrow.about(0, 10), 99993);
        narrow.coin(0, 0, 1, 7);
        DUE.is("n of both ends", narrow.about(0, 10), 100000);
        narrow.coin(0, 0, 1, 1);
        DUE.is("n, one more", narrow.about(0, 10), 100001);
    }

    /** Terms: "Behind s seconds (0 to 999)" Promise 13: "UNKNOWN; OUTSIDE: s." Promise 14: "UNKNOWN; OUTSIDE." Promise 15: "UNKNOWN; OUTSIDE." */
    private static void seconds() {
        BoatsOfPaper x = with(20, 20, 9, 1);
        for (int s : new int[] {0, 1, 998, 999}) {
            DUE.is("deep(0, " + s + ")", x.deep(0, s, true) > 0 && x.deep(0, s, false) > 0 ? 1 : 0, 1);
            DUE.is("corner(0, " + s + ")", x.corner(0, s, true) > 0 && x.corner(0, s, false) > 0 ? 1 : 0, 1);
            DUE.is("under(0, " + s + ")", x.under(0, s), 0);
        }
        for (int s : new int[] {-1, 1000, LEAST, LEAST + 1, MOST}) {
            for (boolean upper : new boolean[] {true, false}) {
                DUE.still("deep(0, " + s + ")", Seen::half, y -> y.deep(0, s, upper), -2);
                DUE.still("corner(0, " + s + ")", Seen::half, y -> y.corner(0, s, upper), -2);
                DUE.still("deep(2, " + s + "): UNKNOWN ahead of OUTSIDE", Seen::half, y -> y.deep(2, s, upper), -1);
                DUE.still("corner(2, " + s + "): UNKNOWN ahead of OUTSIDE", Seen::half, y -> y.corner(2, s, upper), -1);
            }
            DUE.still("under(0, " + s + ")", Seen::half, y -> y.under(0, s), -2);
            DUE.still("under(2, " + s + "): UNKNOWN ahead of OUTSIDE", Seen::half, y -> y.under(2, s), -1);
        }
        for (int boat : new int[] {-1, 2, LEAST, MOST}) {
            for (boolean upper : new boolean[] {true, false}) {
                DUE.is("deep(" + boat + ", 0)", Seen.half().deep(boat, 0, upper), -1);
                DUE.is("corner(" + boat + ", 0)", Seen.half().corner(boat, 0, upper), -1);
            }
            DUE.is("under(" + boat + ", 0)", Seen.half().under(boat, 0), -1);
        }
    }

    /** Terms: "it weighs T: l w t, all COINS, and s times what it drinks." */
    private static void weightAtSeconds() {
        // one CELL: DEPTH is T by 100
        BoatsOfPaper x = with(3, 3, 9, 1);
        x.wax(0, 1, 0);
        DUE.isFraction("at once", x.deep(0, 0, true), x.deep(0, 0, false), 81, 100);
        DUE.isFraction("second 1", x.deep(0, 1, true), x.deep(0, 1, false), 41, 50);
        DUE.isFraction("second 999", x.deep(0, 999, true), x.deep(0, 999, false), 54, 5);
        x.wax(0, 99, 9);
        DUE.isFraction("at once, whatever it drinks", x.deep(0, 0, true), x.deep(0, 0, false), 81, 100);
        DUE.isFraction("second 999 by 99", x.deep(0, 999, true), x.deep(0, 999, false), 49491, 50);
        x.wax(0, 0, 0);
        DUE.isFraction("drinks nothing", x.deep(0, 999, true), x.deep(0, 999, false), 81, 100);
        for (int k = 0; k < 8; k++) {
            x.coin(0, 0, 0, 99);
        }
        DUE.isFraction("with 8 coins", x.deep(0, 0, true), x.deep(0, 0, false), 873, 100);
    }

    /** Terms: "DEPTH is T by 100 a b." Promise 13: "DEPTH." The least, a whole number, and the most CELLS. */
    private static void depth() {
        BoatsOfPaper least = with(3, 3, 1, 1);
        DUE.isFraction("the least", least.deep(0, 0, true), least.deep(0, 0, false), 9, 100);
        least.coin(0, 0, 0, 90);
        DUE.isFraction("99 by 100", least.deep(0, 0, true), least.deep(0, 0, false), 99, 100);
        least.coin(0, 0, 0, 1);
        DUE.isFraction("1 by 1", least.deep(0, 0, true), least.deep(0, 0, false), 1, 1);
        least.coin(0, 0, 0, 1);
        DUE.isFraction("101 by 100", least.deep(0, 0, true), least.deep(0, 0, false), 101, 100);
        BoatsOfPaper most = with(20, 20, 9, 1);
        DUE.isFraction("324 cells", most.deep(0, 0, true), most.deep(0, 0, false), 1, 9);
        DUE.isFraction("at last", most.deep(0, 999, true), most.deep(0, 999, false), 151, 360);
        DUE.still("deep(0, 0, true)", Seen::half, x -> x.deep(0, 0, true), 169);
        DUE.still("deep(0, 0, false)", Seen::half, x -> x.deep(0, 0, false), 600);
    }

    /** Terms: "THE CORNER lies as deep as (T a b, and 3 times m without sign times b, and 3 times n without sign times a) by 100 a a b b." Promise 14: "THE CORNER." */
    private static void corner() {
        BoatsOfPaper x = with(5, 4, 1, 1);
        DUE.isFraction("without coins as the boat", x.corner(0, 0, true), x.corner(0, 0, false), 1, 30);
        // a 3, b 2, T 21: 126, and 3 by 2 by 2, and 3 by 1 by 3: 147 by 3600, in whichever corner it lies
        int[][] corners = {{0, 0}, {2, 0}, {0, 1}, {2, 1}};
        for (int[] at : corners) {
            x.empty(0);
            x.coin(0, at[0], at[1], 1);
            DUE.isFraction("coin in " + at[0] + " " + at[1], x.corner(0, 0, true), x.corner(0, 0, false), 49, 1200);
        }
        x.empty(0);
        x.coin(0, 1, 0, 1);
        DUE.isFraction("in the midst along", x.corner(0, 0, true), x.corner(0, 0, false), 3, 80);
        x.coin(0, 1, 1, 1);
        DUE.isFraction("MOMENTS of 0: as the boat", x.corner(0, 0, true), x.corner(0, 0, false), 11, 300);
        // the greatest of all: T 3600, 792 and 98901; m and n 13464
        BoatsOfPaper most = with(20, 20, 9, 1);
        most.wax(0, 99, 0);
        for (int k = 0; k < 8; k++) {
            most.coin(0, 17, 0, 99);
        }
        // 103293 by 324 and 6 by 13464 by 18: 34921044 by 10497600
        DUE.isFraction("the greatest", most.corner(0, 999, true), most.corner(0, 999, false), 35927, 10800);
        DUE.still("corner(0, 0, true)", Seen::half, y -> y.corner(0, 0, true), 183);
        DUE.still("corner(0, 0, false)", Seen::half, y -> y.corner(0, 0, false), 400);
    }

    /** Terms: "It is UNDER, if THE CORNER is deeper than h." Promise 15: "Whether it is UNDER: 1, 0." */
    private static void underTheRim() {
        BoatsOfPaper x = with(3, 3, 1, 1);
        x.wax(0, 1, 0);
        // 9 and s by 100
        int[][] due = {{0, 0}, {1, 0}, {90, 0}, {91, 0}, {92, 1}, {93, 1}, {998, 1}, {999, 1}};
        for (int[] one : due) {
            DUE.is("under(0, " + one[0] + ")", x.under(0, one[0]), one[1]);
        }
        x.coin(0, 0, 0, 90);
        DUE.is("one below the rim", x.under(0, 0), 0);
        DUE.is("at the rim", x.under(0, 1), 0);
        DUE.is("one above it", x.under(0, 2), 1);
        // the greatest rim: 3600 by 400
        BoatsOfPaper nine = with(20, 20, 9, 9);
        nine.wax(0, 1, 0);
        DUE.is("at a rim of 9", nine.under(0, 0), 0);
        DUE.is("above it", nine.under(0, 1), 1);
        // it is UNDER, not SOFT, that is asked: it is soft from second 11 on
        BoatsOfPaper soft = with(20, 20, 1, 3);
        soft.wax(0, 0, 0);
        DUE.is("soft, but not under", soft.under(0, 999), 0);
        DUE.still("under(0, 0)", Seen::half, y -> y.under(0, 0), 0);
    }

    /** Terms: "It is UNDER, if THE CORNER is deeper than h": where THE CORNER is at it by MOMENTS. */
    private static void underByTheCorner() {
        // a 1, b 9, 33 of paper, 234 at one end: 9 by 267, and 24 by 234 of 8100, and 81 more each second
        BoatsOfPaper x = with(3, 11, 1, 1);
        x.wax(0, 9, 0);
        x.coin(0, 0, 0, 99);
        x.coin(0, 0, 0, 99);
        x.coin(0, 0, 0, 36);
        DUE.isFraction("corner(0, 0)", x.corner(0, 0, true), x.corner(0, 0, false), 99, 100);
        DUE.isFraction("corner(0, 1)", x.corner(0, 1, true), x.corner(0, 1, false), 1, 1);
        DUE.isFraction("corner(0, 2)", x.corner(0, 2, true), x.corner(0, 2, false), 101, 100);
        DUE.is("one below the rim", x.under(0, 0), 0);
        DUE.is("at the rim", x.under(0, 1), 0);
        DUE.is("one above it", x.under(0, 2), 1);
        DUE.is("life(0)", x.life(0), 1);
        // the same across
        BoatsOfPaper y = with(11, 3, 1, 1);
        y.wax(0, 9, 0);
        y.coin(0, 8, 0, 99);
        y.coin(0, 8, 0, 99);
        y.coin(0, 8, 0, 36);
        DUE.is("at the rim", y.under(0, 1), 0);
        DUE.is("one above it", y.under(0, 2), 1);
    }

    /** Terms: "It is SOFT from the second on that is 10 t, 5 times its wax, and 1." */
    private static void softFrom() {
        for (int t : new int[] {1, 2, 8, 9}) {
            BoatsOfPaper x = with(20, 20, t, 3);
            for (int wax = 0; wax <= 9; wax++) {
                x.wax(0, 0, wax);
                int last = 10 * t + 5 * wax;
                DUE.is("life by " + t + " and " + wax, x.life(0), last);
                if (last < 99) {
                    DUE.is("not soft at the second before", x.needs(0, last) <= wax ? 1 : 0, 1);
                    DUE.is("soft then", x.needs(0, last + 1) == (wax < 9 ? wax + 1 : -9) ? 1 : 0, 1);
                }
            }
        }
        BoatsOfPaper x = with(20, 20, 9, 3);
        x.wax(0, 0, 9);
        DUE.is("the longest", x.life(0), 135);
        BoatsOfPaper y = with(20, 20, 1, 3);
        y.wax(0, 0, 0);
        DUE.is("the shortest that is not under", y.life(0), 10);
    }

    /** Terms: "LIFE: the last second at which it is neither UNDER nor SOFT;" Promise 16: "LIFE;" */
    private static void lifeTillUnder() {
        // 91 are left to the rim, soft from second 56 on
        int[][] due = {{99, 0}, {92, 0}, {91, 1}, {90, 1}, {46, 1}, {45, 2}, {13, 7}, {10, 9}, {9, 10}, {8, 11}, {7, 13},
            {2, 45}, {1, 55}, {0, 55}};
        BoatsOfPaper x = with(3, 3, 1, 1);
        for (int[] one : due) {
            x.wax(0, one[0], 9);
            DUE.is("life(0) by " + one[0], x.life(0), one[1]);
            DUE.is("not under then", x.under(0, one[1]), 0);
            DUE.is("under or soft behind it", x.under(0, one[1] + 1), one[1] < 55 ? 1 : 0);
        }
        // UNDER and SOFT at one second: 91 left, 9 a second, soft from second 11 on
        x.wax(0, 9, 0);
        DUE.is("both at once", x.life(0), 10);
        x.wax(0, 10, 0);
        DUE.is("under one earlier", x.life(0), 9);
        x.wax(0, 8, 0);
        DUE.is("soft one earlier", x.life(0), 10);
        DUE.is("not under then", x.under(0, 11), 0);
        DUE.still("life(0)", Seen::half, y -> y.life(0), 70);
        DUE.still("life(1)", Seen::half, y -> y.life(1), 40);
    }

    /** Terms: "NONE: it is UNDER at once (second 0)." Promise 16: "NONE. UNKNOWN." */
    private static void lifeNone() {
        int[][] due = {{89, 0, 10}, {90, 1, 1}, {90, 2, 0}, {91, 0, 10}, {91, 1, 0}, {92, 1, -9}, {92, 0, -9}};
        for (int[] one : due) {
            BoatsOfPaper x = with(3, 3, 1, 1);
            x.wax(0, one[1], 0);
            x.coin(0, 0, 0, one[0]);
            DUE.is("life(0) with a coin of " + one[0] + ", drinking " + one[1], x.life(0), one[2]);
            DUE.is("under(0, 0)", x.under(0, 0), one[2] < 0 ? 1 : 0);
        }
        DUE.is("paper alone, at the rim", with(20, 20, 9, 9).life(0), 0);
        DUE.is("paper alone, above the rim", with(20, 19, 9, 9).life(0), -9);
        for (int boat : new int[] {-1, 2, 6, LEAST, MOST}) {
            DUE.still("life(" + boat + ")", Seen::half, x -> x.life(boat), -1);
        }
        DUE.is("life(0) of none yet", new BoatsOfPaper().life(0), -1);
    }

    /** Terms: "It counts to 999." No BOAT lives longer than 135, and each second to 999 can be asked for. */
    private static void lifeCounts() {
        for (int seconds : new int[] {-1, 0, 1, 134, 135}) {
            BoatsOfPaper x = new BoatsOfPaper();
            DUE.is("life(0)", x.life(Due.lives(x, seconds)), seconds < 0 ? -9 : seconds);
        }
        // it would be UNDER at second 136 only: it is SOFT before
        BoatsOfPaper x = new BoatsOfPaper();
        DUE.is("life(0)", x.life(Due.lives(x, 136)), 135);
        DUE.is("under(0, 136)", x.under(0, 136), 0);
        DUE.is("under(0, 137)", x.under(0, 137), 1);
        // 1465 are left to the rim: less 466 it is at it at second 999 just
        BoatsOfPaper y = with(7, 5, 1, 1);
        y.wax(0, 1, 9);
        for (int weight : new int[] {99, 99, 99, 99, 70}) {
            y.coin(0, 2, 1, weight);
        }
        DUE.is("at the rim at second 999", y.under(0, 999), 0);
        y.coin(0, 2, 1, 1);
        DUE.is("at the rim at second 998", y.under(0, 998), 0);
        DUE.is("above it at second 999", y.under(0, 999), 1);
        DUE.is("life(0)", y.life(0), 55);
    }

    /** Promise 17: "UNKNOWN; OUTSIDE: h, weight." */
    private static void bearsRefused() {
        // l 12, w 9: a rim of 4 leaves 1 across, one of 5 nothing
        DUE.still("h 1", Seen::half, x -> x.bears(0, 1, 99), 66);
        DUE.still("h 4", Seen::half, x -> x.bears(0, 4, 99), 11);
        for (int h : new int[] {0, 5, -1, 6, 10}) {
            DUE.still("h " + h, Seen::half, x -> x.bears(0, h, 1), -2);
        }
        // l 9, w 12
        DUE.still("h 4", Seen::half, x -> x.bears(1, 4, 99), 12);
        DUE.still("h 5", Seen::half, x -> x.bears(1, 5, 99), -2);
        for (int weight : new int[] {0, 100, -1, LEAST, MOST}) {
            DUE.still("weight " + weight, Seen::half, x -> x.bears(0, 1, weight), -2);
            DUE.still("UNKNOWN ahead of OUTSIDE", Seen::half, x -> x.bears(2, 0, weight), -1);
        }
        for (int boat : new int[] {-1, 2, 6, LEAST, MOST}) {
            DUE.still("boat " + boat, Seen::half, x -> x.bears(boat, 1, 1), -1);
        }
        DUE.is("none yet", new BoatsOfPaper().bears(0, 1, 1), -1);
    }

    /** Terms: "BEARS, if it were folded with a rim h:", Terms: "how many COINS of some weight, all lying so that MOMENTS are 0, till one more would put it UNDER at second 0" Promise 17: "BEARS." */
    private static void bearsJust() {
        // 91 are left
        int[][] due = {{1, 91}, {2, 45}, {30, 3}, {31, 2}, {44, 2}, {45, 2}, {46, 1}, {90, 1}, {91, 1}, {92, 0}, {99, 0}};
        BoatsOfPaper x = with(3, 3, 1, 1);
        for (int[] one : due) {
            DUE.is("bears(0, 1, " + one[0] + ")", x.bears(0, 1, one[0]), one[1]);
        }
        // what it drinks is nothing at second 0
        x.wax(0, 99, 9);
        DUE.is("drinking", x.bears(0, 1, 91), 1);
        // more than 8 COINS, as many as there is room for: 100 by 196 by 3 less 400
        DUE.is("the most of all", with(20, 20, 1, 9).bears(0, 3, 1), 58400);
        DUE.is("another rim than its own", with(8, 6, 2, 1).bears(0, 2, 50), 30);
    }

    /** Terms: "(0: none, also if it is UNDER without)." */
    private static void bearsNone() {
        // 3600 by 3600: at the rim without any; 3420 by 1800 and 3249 by 900: UNDER without any
        for (int weight : new int[] {1, 50, 99}) {
            DUE.is("at the rim without", with(20, 20, 9, 1).bears(0, 9, weight), 0);
            DUE.is("under without", with(20, 19, 9, 1).bears(0, 9, weight), 0);
            DUE.is("under without", with(19, 19, 9, 1).bears(0, 9, weight), 0);
        }
        // 405 by 400: no paper is nearer above its rim
        for (int weight : new int[] {1, 5, 99}) {
            DUE.is("just under without", with(9, 9, 5, 1).bears(0, 4, weight), 0);
        }
        DUE.is("just under without", with(9, 9, 5, 4).life(0), -9);
        // 19 are left
        DUE.is("18", with(3, 3, 9, 1).bears(0, 1, 18), 1);
        DUE.is("19", with(3, 3, 9, 1).bears(0, 1, 19), 1);
        DUE.is("20", with(3, 3, 9, 1).bears(0, 1, 20), 0);
    }

    /** Terms: "its own COINS being out of it:" */
    private static void bearsWithoutItsCoins() {
        BoatsOfPaper x = with(3, 3, 1, 1);
        for (int k = 0; k <= 8; k++) {
            DUE.is("with " + k + " coins", x.bears(0, 1, 45), 2);
            DUE.is("rim with " + k + " coins", x.rim(0, 45), 1);
            x.coin(0, 0, 0, 99);
        }
        DUE.is("they lie as before", x.about(0, 8), 8);
        DUE.is("under(0, 0)", x.under(0, 0), 1);
    }

    /** Promise 18: "UNKNOWN; OUTSIDE." */
    private static void rimRefused() {
        DUE.still("weight 1", Seen::half, x -> x.rim(0, 1), 2);
        DUE.still("weight 99", Seen::half, x -> x.rim(0, 99), 2);
        for (int weight : new int[] {0, 100, -1, LEAST, MOST}) {
            DUE.still("weight " + weight, Seen::half, x -> x.rim(0, weight), -2);
            DUE.still("UNKNOWN ahead of OUTSIDE", Seen::half, x -> x.rim(2, weight), -1);
        }
        for (int boat : new int[] {-1, 2, 6, LEAST, MOST}) {
            DUE.still("boat " + boat, Seen::half, x -> x.rim(boat, 1), -1);
        }
        DUE.is("none yet", new BoatsOfPaper().rim(0, 1), -1);
    }

    /** Terms: "RIM: the h with which it BEARS most; of like ones the least." Promise 18: "RIM." */
    private static void rimOfLikeOnes() {
        // 6 by 8 by 1 and 4 by 6 by 2: 4800 each
        BoatsOfPaper like = with(8, 10, 3, 3);
        DUE.is("bears(0, 1, 1)", like.bears(0, 1, 1), 4560);
        DUE.is("bears(0, 2, 1)", like.bears(0, 2, 1), 4560);
        DUE.is("of like ones the least", like.rim(0, 1), 1);
        DUE.is("of like ones the least", like.rim(0, 99), 1);
        // 4171 and 4271 are left by 1 and 2
        BoatsOfPaper nearly = with(9, 9, 9, 1);
        DUE.is("bears(0, 1, 99)", nearly.bears(0, 1, 99), 42);
        DUE.is("bears(0, 2, 99)", nearly.bears(0, 2, 99), 43);
        DUE.is("the greater", nearly.rim(0, 99), 2);
        // the only one, of the smallest sheet and of a narrow one
        DUE.is("the only one", with(3, 3, 9, 1).rim(0, 99), 1);
        DUE.is("the only one", with(4, 20, 9, 1).rim(0, 1), 1);
        // 1 leaves 3 by 3, 2 leaves 1 by 1 and is UNDER without
        DUE.is("one is under without", with(5, 5, 9, 2).rim(0, 99), 1);
        DUE.is("of the greatest sheet", with(20, 20, 9, 9).rim(0, 1), 3);
    }

    /** Terms: "(1 without any, if it is not UNDER)." Promise 19: "UNKNOWN." */
    private static void ordersWithout() {
        DUE.is("at the rim", with(20, 20, 9, 9).orders(0), 1);
        DUE.is("under", with(20, 19, 9, 9).orders(0), 0);
        DUE.is("not under", with(3, 3, 1, 1).orders(0), 1);
        DUE.still("orders(0)", Seen::half, x -> x.orders(0), 2);
        DUE.still("orders(1)", Seen::half, x -> x.orders(1), 1);
        for (int boat : new int[] {-1, 2, 6, LEAST, MOST}) {
            DUE.still("orders(" + boat + ")", Seen::half, x -> x.orders(boat), -1);
        }
        DUE.is("none yet", new BoatsOfPaper().orders(0), -1);
    }

    /** Terms: "ORDERS of its COINS: in how many they can be laid one by one so that it is never UNDER at second 0" */
    private static void ordersNeverUnder() {
        // one CELL, 91 left: 90, 91 and 92
        for (int last : new int[] {44, 45, 46}) {
            BoatsOfPaper x = with(3, 3, 1, 1);
            x.coin(0, 0, 0, 46);
            x.coin(0, 0, 0, last);
            DUE.is("46 and " + last, x.orders(0), last < 46 ? 2 : 0);
        }
        // a 1, b 9, 297 of paper: two at one end are 2673 and 33 by both of 8100, the third at the other end
        for (int last : new int[] {81, 82, 83}) {
            BoatsOfPaper x = with(3, 11, 9, 1);
            x.coin(0, 0, 0, 82);
            x.coin(0, 0, 0, last);
            x.coin(0, 0, 8, 99);
            // 163 and 164 are not UNDER, 165 are: the third is not the last then
            DUE.is("82 and " + last, x.orders(0), last < 83 ? 6 : 4);
            DUE.is("the second", x.order(0, 1), last < 83 ? 1 : 2);
            DUE.is("the third", x.order(0, 2), last < 83 ? 2 : 1);
        }
        // seconds do not count
        BoatsOfPaper x = with(3, 3, 1, 1);
        x.wax(0, 99, 0);
        x.coin(0, 0, 0, 91);
        DUE.is("orders(0)", x.orders(0), 1);
    }

    /** Promise 19: "ORDERS." Of as many COINS as there can be. */
    private static void ordersOfEight() {
        BoatsOfPaper x = with(20, 20, 1, 3);
        int many = 1;
        for (int k = 1; k <= 8; k++) {
            x.coin(0, k, 13 - k, 99);
            many *= k;
            DUE.is("orders of " + k, x.orders(0), many);
        }
        // eight in one CELL that just go in, and by one more do not
        BoatsOfPaper y = with(3, 3, 3, 1);
        for (int k = 0; k < 7; k++) {
            y.coin(0, 0, 0, 9);
        }
        y.coin(0, 0, 0, 10);
        DUE.is("at the rim", y.orders(0), 40320);
        DUE.is("order(0, 7)", y.order(0, 7), 7);
        BoatsOfPaper z = with(3, 3, 3, 1);
        for (int k = 0; k < 7; k++) {
            z.coin(0, 0, 0, 9);
        }
        z.coin(0, 0, 0, 11);
        DUE.is("above it", z.orders(0), 0);
        DUE.is("order(0, 0)", z.order(0, 0), -9);
    }

    /** Promise 20: "The COIN that is k-th (from 0) in THE FIRST ORDER;" Terms: "THE FIRST ORDER: by COINS, the least first." */
    private static void orderBounds() {
        for (int many = 0; many <= 8; many++) {
            BoatsOfPaper x = with(20, 20, 1, 3);
            for (int k = 0; k < many; k++) {
                x.coin(0, 13 - k, k, 9 - k);
            }
            for (int k = -1; k <= 9; k++) {
                DUE.is("order(0, " + k + ") of " + many, x.order(0, k), k >= 0 && k < many ? k : -9);
            }
            for (int k : Due.WILD) {
                DUE.is("order(0, " + k + ") of " + many, x.order(0, k), -9);
            }
        }
        // the least first is not the least at the end: 0 1 is UNDER, 0 2 1 is the first, not 1 ..
        BoatsOfPaper x = with(3, 11, 9, 1);
        x.coin(0, 0, 0, 83);
        x.coin(0, 0, 0, 82);
        x.coin(0, 0, 8, 99);
        int[] due = {0, 2, 1};
        for (int k = 0; k < 3; k++) {
            DUE.is("order(0, " + k + ")", x.order(0, k), due[k]);
        }
    }

    /** Promise 20: "NONE: there is no ORDER, or not so many COINS. UNKNOWN." */
    private static void orderNone() {
        DUE.is("no coins", with(3, 3, 1, 1).order(0, 0), -9);
        DUE.is("no coins, and under", with(20, 19, 9, 9).order(0, 0), -9);
        BoatsOfPaper x = with(3, 3, 1, 1);
        x.coin(0, 0, 0, 91);
        DUE.is("at the rim", x.order(0, 0), 0);
        x.coin(0, 0, 0, 1);
        DUE.is("no order", x.order(0, 0), -9);
        DUE.is("no order", x.order(0, 1), -9);
        DUE.still("the second coin", Seen::half, y -> y.order(0, 1), 1);
        DUE.still("the only coin", Seen::half, y -> y.order(1, 0), 0);
        DUE.still("not so many", Seen::half, y -> y.order(1, 1), -9);
        for (int boat : new int[] {-1, 2, 6, LEAST, MOST}) {
            DUE.still("order(" + boat + ", 0)", Seen::half, y -> y.order(boat, 0), -1);
            DUE.still("order(" + boat + ", -1)", Seen::half, y -> y.order(boat, -1), -1);
        }
        DUE.is("none yet", new BoatsOfPaper().order(0, 0), -1);
    }

    /** Terms: "WAX for so many seconds (0 to 99):" Promise 21: "UNKNOWN; OUTSIDE: seconds." */
    private static void needsSeconds() {
        DUE.still("needs(0, 0)", Seen::half, x -> x.needs(0, 0), 0);
        DUE.still("needs(0, 99)", Seen::half, x -> x.needs(0, 99), -9);
        for (int seconds : new int[] {-1, 100, LEAST, MOST}) {
            DUE.still("needs(0, " + seconds + ")", Seen::half, x -> x.needs(0, seconds), -2);
            DUE.still("UNKNOWN ahead of OUTSIDE", Seen::half, x -> x.needs(2, seconds), -1);
        }
        for (int boat : new int[] {-1, 2, 6, LEAST, MOST}) {
            DUE.still("needs(" + boat + ", 0)", Seen::half, x -> x.needs(boat, 0), -1);
        }
        DUE.is("none yet", new BoatsOfPaper().needs(0, 0), -1);
    }

    /** Terms: "the least wax by which it is not SOFT then;" Promise 21: "WAX;" */
    private static void needsLeast() {
        for (int t = 1; t <= 9; t++) {
            BoatsOfPaper x = with(9, 9, t, 1);
            for (int wax = 0; wax <= 9; wax++) {
                int last = 10 * t + 5 * wax;
                if (last <= 99) {
                    DUE.is("needs(0, " + last + ") by " + t, x.needs(0, last), wax);
                }
                if (last < 99) {
                    DUE.is("needs(0, " + (last + 1) + ") by " + t, x.needs(0, last + 1), wax < 9 ? wax + 1 : -9);
                }
            }
            // neither what it has nor that it is UNDER counts
            x.wax(0, 99, 9);
            DUE.is("needs(0, 10) by " + t, x.needs(0, 10), 0);
        }
        BoatsOfPaper under = with(20, 19, 9, 9);
        DUE.is("needs(0, 90), though under", under.needs(0, 90), 0);
    }

    /** Terms: "the least wax by which it is not SOFT then; NONE." Promise 21: "NONE." */
    private static void needsNone() {
        DUE.is("55 by 1", with(9, 9, 1, 1).needs(0, 55), 9);
        DUE.is("56 by 1", with(9, 9, 1, 1).needs(0, 56), -9);
        DUE.is("99 by 1", with(9, 9, 1, 1).needs(0, 99), -9);
        DUE.is("95 by 5", with(9, 9, 5, 1).needs(0, 95), 9);
        DUE.is("96 by 5", with(9, 9, 5, 1).needs(0, 96), -9);
        DUE.is("99 by 5", with(9, 9, 5, 1).needs(0, 99), -9);
        DUE.is("99 by 6", with(9, 9, 6, 1).needs(0, 99), 8);
        DUE.is("99 by 9", with(9, 9, 9, 1).needs(0, 99), 2);
    }
}
