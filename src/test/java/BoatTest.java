/** Promises 8 to 21: boat, wax, coin, empty, about, deep, corner, under, life, bears, rim, orders, order, needs. */
public final class BoatTest {
    private static final Due DUE = new Due("BoatTest");
    private static final int LEAST = Integer.MIN_VALUE;
    private static final int MOST = Integer.MAX_VALUE;

    public static void main(String[] args) {
        boat();
        wax();
        coin();
        empty();
        about();
        deep();
        corner();
        under();
        life();
        bears();
        rim();
        orders();
        order();
        needs();
        noBoat();
        DUE.end();
    }

    private static void boat() {
        BoatsOfPaper x = new BoatsOfPaper();
        int[][] outside = {{2, 5, 1, 1}, {5, 2, 1, 1}, {21, 5, 1, 1}, {5, 21, 1, 1}, {5, 5, 0, 1}, {5, 5, 10, 1},
            {5, 5, 1, 0}, {5, 5, 1, -1}, {4, 20, 1, 2}, {20, 4, 1, 2}, {20, 20, 1, 10}, {5, 5, 1, MOST},
            {5, 5, 1, LEAST}, {5, 5, 1, 1 << 30}, {5, 5, 1, MOST - 1}, {LEAST, 5, 1, 1}, {5, MOST, 1, 1}, {5, 5, MOST, 1}, {6, 6, 1, 3}};
        for (int[] a : outside) {
            DUE.is("boat(" + a[0] + ", " + a[1] + ", " + a[2] + ", " + a[3] + ")", x.boat(a[0], a[1], a[2], a[3]), -2);
        }
        DUE.is("count(1)", x.count(1), 0);
        DUE.is("boat(3, 3, 1, 1)", x.boat(3, 3, 1, 1), 0);
        DUE.is("boat(20, 20, 9, 9)", x.boat(20, 20, 9, 9), 1);
        DUE.is("boat(3, 20, 9, 1)", x.boat(3, 20, 9, 1), 2);
        DUE.is("boat(20, 3, 1, 1)", x.boat(20, 3, 1, 1), 3);
        DUE.is("boat(5, 6, 4, 2)", x.boat(5, 6, 4, 2), 4);
        DUE.is("boat(19, 20, 4, 9)", x.boat(19, 20, 4, 9), 5);
        DUE.is("boat(5, 6, 4, 2): 7", x.boat(5, 6, 4, 2), -4);
        DUE.is("OUTSIDE ahead of FULL", x.boat(5, 6, 4, 3), -2);
        DUE.is("count(1)", x.count(1), 6);
        DUE.is("about(5, 0)", x.about(5, 0), 19);
        DUE.is("drinks 10", x.about(5, 6), 10);
        DUE.is("not waxed", x.about(5, 7), 0);
        DUE.is("no coins", x.about(5, 8), 0);
    }

    private static void wax() {
        BoatsOfPaper x = new BoatsOfPaper();
        x.boat(9, 9, 1, 1);
        DUE.is("wax(0, 99, 9)", x.wax(0, 99, 9), 0);
        DUE.is("wax(0, 0, 3)", x.wax(0, 0, 3), 9);
        DUE.is("wax(0, -1, 3)", x.wax(0, -1, 3), -2);
        DUE.is("wax(0, 100, 3)", x.wax(0, 100, 3), -2);
        DUE.is("wax(0, 5, -1)", x.wax(0, 5, -1), -2);
        DUE.is("wax(0, 5, 10)", x.wax(0, 5, 10), -2);
        DUE.is("wax(1, 100, 10)", x.wax(1, 100, 10), -1);
        DUE.is("wax(-1, 5, 5)", x.wax(-1, 5, 5), -1);
        DUE.is("drinks stay", x.about(0, 6), 0);
        DUE.is("wax stays", x.about(0, 7), 3);
        DUE.is("wax(0, 98, 0)", x.wax(0, 98, 0), 3);
        DUE.is("drinks", x.about(0, 6), 98);
    }

    private static void coin() {
        BoatsOfPaper x = new BoatsOfPaper();
        x.boat(7, 10, 9, 2);
        int[][] outside = {{-1, 0, 1}, {3, 0, 1}, {0, -1, 1}, {0, 6, 1}, {0, 0, 0}, {0, 0, 100}, {0, 0, -1},
            {LEAST, 0, 1}, {MOST, 0, 1}, {0, LEAST, 1}, {0, MOST, 1}, {0, 0, LEAST}, {0, 0, MOST}};
        for (int[] a : outside) {
            DUE.is("coin(0, " + a[0] + ", " + a[1] + ", " + a[2] + ")", x.coin(0, a[0], a[1], a[2]), -2);
        }
        DUE.is("coin(1, -1, 0, 0)", x.coin(1, -1, 0, 0), -1);
        DUE.is("about(0, 8)", x.about(0, 8), 0);
        DUE.is("coin(0, 2, 5, 99)", x.coin(0, 2, 5, 99), 0);
        DUE.is("coin(0, 2, 5, 1): the same cell", x.coin(0, 2, 5, 1), 1);
        DUE.is("about(0, 9)", x.about(0, 9), 100200);
        DUE.is("about(0, 10)", x.about(0, 10), 100500);
        for (int k = 2; k < 8; k++) {
            DUE.is("coin(0, 0, 0, 1)", x.coin(0, 0, 0, 1), k);
        }
        DUE.is("coin(0, 0, 0, 1): 9", x.coin(0, 0, 0, 1), -4);
        DUE.is("OUTSIDE ahead of FULL", x.coin(0, 3, 0, 1), -2);
        DUE.is("about(0, 8)", x.about(0, 8), 8);
    }

    private static void empty() {
        BoatsOfPaper x = new BoatsOfPaper();
        x.boat(7, 10, 9, 2);
        x.boat(7, 10, 9, 2);
        x.wax(0, 7, 3);
        x.coin(0, 0, 0, 5);
        x.coin(0, 1, 1, 5);
        x.coin(1, 1, 1, 5);
        DUE.is("empty(2)", x.empty(2), -1);
        DUE.is("empty(0)", x.empty(0), 2);
        DUE.is("empty(0)", x.empty(0), 0);
        DUE.is("about(0, 8)", x.about(0, 8), 0);
        DUE.is("about(0, 9)", x.about(0, 9), 100000);
        DUE.is("deep", x.deep(0, 0, true), 7);
        DUE.is("drinks stay", x.about(0, 6), 7);
        DUE.is("wax stays", x.about(0, 7), 3);
        DUE.is("the other's coins stay", x.about(1, 8), 1);
        DUE.is("coin(0, 1, 2, 3)", x.coin(0, 1, 2, 3), 0);
    }

    private static void about() {
        BoatsOfPaper x = new BoatsOfPaper();
        x.boat(12, 9, 4, 3);
        x.wax(0, 17, 6);
        x.coin(0, 0, 0, 11);
        x.coin(0, 5, 1, 7);
        x.coin(0, 2, 2, 5);
        // a 6, b 3: m is 11 (-5) + 7 (5) + 5 (-1), n is 11 (-2) + 7 (0) + 5 (2)
        int[] due = {12, 9, 4, 3, 6, 3, 17, 6, 3, 99975, 99988};
        for (int what = 0; what < due.length; what++) {
            DUE.is("about(0, " + what + ")", x.about(0, what), due[what]);
        }
        DUE.is("about(0, 11)", x.about(0, 11), -2);
        DUE.is("about(0, -1)", x.about(0, -1), -2);
        DUE.is("about(0, least)", x.about(0, LEAST), -2);
        DUE.is("about(0, most)", x.about(0, MOST), -2);
        DUE.is("about(1, 11)", x.about(1, 11), -1);
    }

    private static void deep() {
        BoatsOfPaper x = new BoatsOfPaper();
        x.boat(12, 9, 4, 3);
        x.wax(0, 17, 6);
        // 432 by 1800
        DUE.isFraction("deep(0, 0)", x.deep(0, 0, true), x.deep(0, 0, false), 6, 25);
        x.coin(0, 5, 2, 68);
        // 432 and 68: 500 by 1800, where it lies does not count
        DUE.isFraction("deep(0, 0)", x.deep(0, 0, true), x.deep(0, 0, false), 5, 18);
        // 500 and 999 times 17
        DUE.isFraction("deep(0, 999)", x.deep(0, 999, true), x.deep(0, 999, false), 17483, 1800);
        DUE.isFraction("deep(0, 1)", x.deep(0, 1, true), x.deep(0, 1, false), 517, 1800);
        DUE.is("deep(0, 1000, false)", x.deep(0, 1000, false), -2);
        DUE.is("deep(0, -1, true)", x.deep(0, -1, true), -2);
        DUE.is("deep(1, -1, false)", x.deep(1, -1, false), -1);
        x.boat(20, 20, 9, 1);
        // 3600 by 32400
        DUE.isFraction("deep(1, 0)", x.deep(1, 0, true), x.deep(1, 0, false), 1, 9);
    }

    private static void corner() {
        BoatsOfPaper x = new BoatsOfPaper();
        x.boat(12, 9, 4, 3);
        DUE.isFraction("corner(0, 0)", x.corner(0, 0, true), x.corner(0, 0, false), 6, 25);
        x.coin(0, 0, 0, 10);
        // T 442, a b 18, m -50, n -20: 442 18 + 3 50 3 + 3 20 6 = 7956 + 450 + 360 by 100 324
        DUE.isFraction("corner(0, 0)", x.corner(0, 0, true), x.corner(0, 0, false), 487, 1800);
        x.coin(0, 5, 2, 30);
        // T 472, m 100, n 40: 8496 + 900 + 720 = 10116 by 32400
        DUE.isFraction("corner(0, 0)", x.corner(0, 0, true), x.corner(0, 0, false), 281, 900);
        // T 502 at second 3: 9036 + 1620 = 10656
        DUE.isFraction("corner(0, 3)", x.corner(0, 3, true), x.corner(0, 3, false), 74, 225);
        DUE.is("corner(0, 999, false)", x.corner(0, 999, false) > 0 ? 1 : 0, 1);
        DUE.is("corner(0, 1000, true)", x.corner(0, 1000, true), -2);
        DUE.is("corner(0, -1, false)", x.corner(0, -1, false), -2);
        DUE.is("corner(5, -1, false)", x.corner(5, -1, false), -1);
    }

    private static void under() {
        BoatsOfPaper x = new BoatsOfPaper();
        x.boat(20, 20, 9, 9);
        // as deep as its rim is not UNDER
        DUE.is("under(0, 0)", x.under(0, 0), 0);
        DUE.is("under(0, 1)", x.under(0, 1), 1);
        DUE.is("under(0, 999)", x.under(0, 999), 1);
        x.wax(0, 0, 0);
        DUE.is("under(0, 999)", x.under(0, 999), 0);
        x.coin(0, 0, 0, 1);
        DUE.is("under(0, 0)", x.under(0, 0), 1);
        DUE.is("under(0, 1000)", x.under(0, 1000), -2);
        DUE.is("under(0, -1)", x.under(0, -1), -2);
        DUE.is("under(1, 1000)", x.under(1, 1000), -1);
        cornerUnder(x);
    }

    private static void cornerUnder(BoatsOfPaper x) {
        // a 1, b 9, paper 297, 8100 parts to the rim: a weight is 9 of them, and 24 more at an end
        x.boat(3, 11, 9, 1);
        x.wax(1, 0, 0);
        x.coin(1, 0, 0, 99);
        DUE.is("5940 of 8100", x.under(1, 0), 0);
        x.coin(1, 0, 0, 65);
        DUE.is("8085 of 8100", x.under(1, 0), 0);
        x.coin(1, 0, 0, 1);
        DUE.is("8118 of 8100", x.under(1, 0), 1);
        x.empty(1);
        x.coin(1, 0, 4, 99);
        x.coin(1, 0, 4, 99);
        x.coin(1, 0, 4, 99);
        DUE.is("all in the middle", x.under(1, 0), 0);
    }

    private static void life() {
        BoatsOfPaper x = new BoatsOfPaper();
        x.boat(8, 6, 2, 1);
        DUE.is("till it is soft", x.life(0), 20);
        x.wax(0, 10, 9);
        DUE.is("wax makes it longer", x.life(0), 65);
        x.wax(0, 99, 9);
        // 96 of 2400: 23 times 99 is 2277
        DUE.is("till it is under", x.life(0), 23);
        x.coin(0, 2, 1, 27);
        x.coin(0, 3, 2, 27);
        DUE.is("with coins", x.life(0), 22);
        x.boat(20, 20, 9, 9);
        DUE.is("at the rim", x.life(1), 0);
        x.coin(1, 0, 0, 1);
        DUE.is("under at once", x.life(1), -9);
        x.boat(20, 20, 9, 2);
        x.wax(2, 0, 9);
        DUE.is("the longest", x.life(2), 135);
        x.boat(9, 9, 1, 1);
        x.wax(3, 0, 0);
        DUE.is("one that drinks nothing", x.life(3), 10);
        // 180 of 200 with a b of 2
        x.boat(20, 9, 1, 4);
        DUE.is("till second 62", x.life(4), 10);
        x.boat(4, 3, 9, 1);
        // 108 of 200, 9 seconds with 10 each
        DUE.is("till second 9", x.life(5), 9);
        x.wax(5, 46, 0);
        DUE.is("just at the rim at second 2", x.life(5), 2);
        x.wax(5, 47, 0);
        DUE.is("beyond it at second 2", x.life(5), 1);
        x.wax(5, 93, 0);
        DUE.is("second 0 alone", x.life(5), 0);
        DUE.is("life(6)", x.life(6), -1);
    }

    private static void bears() {
        BoatsOfPaper x = new BoatsOfPaper();
        x.boat(8, 6, 2, 1);
        DUE.is("bears(0, 1, 50)", x.bears(0, 1, 50), 46);
        DUE.is("bears(0, 2, 50)", x.bears(0, 2, 50), 30);
        DUE.is("bears(0, 1, 1)", x.bears(0, 1, 1), 2304);
        DUE.is("bears(0, 1, 64): just", x.bears(0, 1, 64), 36);
        DUE.is("bears(0, 1, 65)", x.bears(0, 1, 65), 35);
        x.coin(0, 0, 0, 99);
        x.wax(0, 99, 9);
        DUE.is("its own coins are out", x.bears(0, 1, 50), 46);
        DUE.is("bears(0, 0, 50)", x.bears(0, 0, 50), -2);
        DUE.is("bears(0, 3, 50)", x.bears(0, 3, 50), -2);
        DUE.is("bears(0, -1, 50)", x.bears(0, -1, 50), -2);
        DUE.is("bears(0, most, 50)", x.bears(0, MOST, 50), -2);
        DUE.is("bears(0, 1 << 30, 50)", x.bears(0, 1 << 30, 50), -2);
        DUE.is("bears(0, 1, 0)", x.bears(0, 1, 0), -2);
        DUE.is("bears(0, 1, 100)", x.bears(0, 1, 100), -2);
        DUE.is("bears(0, 1, least)", x.bears(0, 1, LEAST), -2);
        DUE.is("bears(1, 1, 0)", x.bears(1, 1, 0), -1);
        x.boat(20, 20, 9, 1);
        DUE.is("at the rim without", x.bears(1, 9, 1), 0);
        x.boat(20, 19, 9, 1);
        // 3420 of 1800: UNDER without
        DUE.is("under without", x.bears(2, 9, 1), 0);
        DUE.is("bears(1, 3, 10)", x.bears(1, 3, 10), 5520);
        DUE.is("the boat stays", x.about(1, 3), 1);
    }

    private static void rim() {
        BoatsOfPaper x = new BoatsOfPaper();
        // a b h of 20 by 20 is greatest with 3: 588
        x.boat(20, 20, 9, 9);
        DUE.is("rim(0, 10)", x.rim(0, 10), 3);
        x.boat(3, 3, 9, 1);
        DUE.is("the only rim", x.rim(1, 99), 1);
        // a b h are 54 and 32
        x.boat(5, 20, 1, 2);
        DUE.is("rim(2, 50)", x.rim(2, 50), 1);
        // 72, 84, 60, 24
        x.boat(10, 11, 1, 1);
        DUE.is("rim(3, 1)", x.rim(3, 1), 2);
        // 48 and 48: of like ones the least
        x.boat(8, 10, 3, 3);
        DUE.is("bears(4, 1, 7)", x.bears(4, 1, 7), x.bears(4, 2, 7));
        DUE.is("rim(4, 7)", x.rim(4, 7), 1);
        // 49, 50, 27, 4: with 4171 and 4271 left, 42 and 43 of 99
        x.boat(9, 9, 9, 1);
        DUE.is("rim(5, 99)", x.rim(5, 99), 2);
        DUE.is("the boat stays", x.about(5, 3), 1);
        DUE.is("rim(5, 0)", x.rim(5, 0), -2);
        DUE.is("rim(5, 100)", x.rim(5, 100), -2);
        DUE.is("rim(6, 0)", x.rim(6, 0), -1);
    }

    private static void orders() {
        BoatsOfPaper x = new BoatsOfPaper();
        x.boat(20, 20, 9, 9);
        DUE.is("none, not under", x.orders(0), 1);
        x.coin(0, 0, 0, 1);
        DUE.is("one too many", x.orders(0), 0);
        x.boat(20, 19, 9, 9);
        DUE.is("none, but under", x.orders(1), 0);
        DUE.is("no first one", x.order(1, 0), -9);
        x.boat(12, 12, 1, 1);
        int many = 1;
        for (int k = 1; k <= 8; k++) {
            many *= k;
            x.coin(2, 5, 5, 1);
            DUE.is("orders of " + k, x.orders(2), many);
        }
        DUE.is("orders(3)", x.orders(3), -1);
        heavyEnds(x);
    }

    private static void heavyEnds(BoatsOfPaper x) {
        // 3 by 11: a 1, b 9, 99 paper of 8100 parts by 9 a weight and 24 a weight at an end
        x.boat(3, 11, 3, 1);
        x.coin(3, 0, 0, 99);
        x.coin(3, 0, 8, 99);
        x.coin(3, 0, 0, 99);
        // 99 and 198: 297 9 + 0; one side with two: 297 9 + 3 198 8 = 7425; three: 396 9 + 3 99 8 = 5940
        DUE.is("all", x.orders(3), 6);
        x.coin(3, 0, 8, 99);
        // 495 9 = 4455 at last; two of one side and one of the other are 5940; two of one side 7425
        DUE.is("all of four", x.orders(3), 24);
        x.wax(3, 99, 0);
        DUE.is("what it drinks does not count at second 0", x.orders(3), 24);
        x.empty(3);
        x.boat(3, 11, 6, 1);
        // 198: two of one side are 396 9 + 4752 = 8316, so they take turns: 0 2 against 1 3
        x.coin(4, 0, 0, 99);
        x.coin(4, 0, 0, 99);
        x.coin(4, 0, 8, 99);
        x.coin(4, 0, 8, 99);
        // first any of 4, then one of the other side of 2, then any of 2, then 1: three are 495 9 + 2376 = 6831
        DUE.is("by turns", x.orders(4), 16);
        int[] due = {0, 2, 1, 3};
        for (int k = 0; k < 4; k++) {
            DUE.is("order(4, " + k + ")", x.order(4, k), due[k]);
        }
    }

    private static void order() {
        BoatsOfPaper x = new BoatsOfPaper();
        x.boat(3, 11, 6, 1);
        DUE.is("no coins", x.order(0, 0), -9);
        x.coin(0, 0, 4, 99);
        DUE.is("the only order", x.order(0, 0), 0);
        DUE.is("order(0, 1)", x.order(0, 1), -9);
        x.empty(0);
        x.coin(0, 0, 8, 99);
        x.coin(0, 0, 8, 99);
        x.coin(0, 0, 0, 1);
        x.coin(0, 0, 0, 99);
        // 0 and 1 on one side must not lie together unless 3 lies: 1 at the other end is too little
        int[] due = {0, 2, 3, 1};
        for (int k = 0; k < 4; k++) {
            DUE.is("order(0, " + k + ")", x.order(0, k), due[k]);
        }
        DUE.is("order(0, 4)", x.order(0, 4), -9);
        DUE.is("order(0, -1)", x.order(0, -1), -9);
        DUE.is("order(0, most)", x.order(0, MOST), -9);
        DUE.is("order(0, least)", x.order(0, LEAST), -9);
        DUE.is("order(1, 0)", x.order(1, 0), -1);
        x.coin(0, 0, 8, 99);
        x.coin(0, 0, 8, 99);
        DUE.is("no order", x.orders(0), 0);
        DUE.is("order(0, 0)", x.order(0, 0), -9);
        x.boat(12, 12, 1, 1);
        for (int k = 0; k < 8; k++) {
            x.coin(1, k, k, 9 - k);
        }
        for (int k = 0; k < 8; k++) {
            DUE.is("order(1, " + k + ")", x.order(1, k), k);
        }
        DUE.is("order(1, 8)", x.order(1, 8), -9);
    }

    private static void needs() {
        BoatsOfPaper x = new BoatsOfPaper();
        x.boat(8, 6, 2, 1);
        x.wax(0, 99, 5);
        DUE.is("needs(0, 0)", x.needs(0, 0), 0);
        DUE.is("needs(0, 20)", x.needs(0, 20), 0);
        DUE.is("needs(0, 21)", x.needs(0, 21), 1);
        DUE.is("needs(0, 25)", x.needs(0, 25), 1);
        DUE.is("needs(0, 26)", x.needs(0, 26), 2);
        DUE.is("needs(0, 65)", x.needs(0, 65), 9);
        DUE.is("needs(0, 66)", x.needs(0, 66), -9);
        DUE.is("needs(0, 99)", x.needs(0, 99), -9);
        DUE.is("needs(0, 100)", x.needs(0, 100), -2);
        DUE.is("needs(0, -1)", x.needs(0, -1), -2);
        DUE.is("needs(1, 100)", x.needs(1, 100), -1);
        DUE.is("the wax stays", x.about(0, 7), 5);
        x.boat(8, 6, 9, 1);
        DUE.is("needs(1, 99)", x.needs(1, 99), 2);
        DUE.is("needs(1, 90)", x.needs(1, 90), 0);
    }

    private static void noBoat() {
        BoatsOfPaper x = new BoatsOfPaper();
        x.boat(5, 5, 1, 1);
        for (int boat : new int[] {-1, 1, 5, 6, LEAST, MOST}) {
            String at = "(" + boat + ")";
            DUE.is("wax" + at, x.wax(boat, 1, 1), -1);
            DUE.is("coin" + at, x.coin(boat, 0, 0, 1), -1);
            DUE.is("empty" + at, x.empty(boat), -1);
            DUE.is("about" + at, x.about(boat, 0), -1);
            DUE.is("deep" + at, x.deep(boat, 0, false), -1);
            DUE.is("corner" + at, x.corner(boat, 0, true), -1);
            DUE.is("under" + at, x.under(boat, 0), -1);
            DUE.is("life" + at, x.life(boat), -1);
            DUE.is("bears" + at, x.bears(boat, 1, 1), -1);
            DUE.is("rim" + at, x.rim(boat, 1), -1);
            DUE.is("orders" + at, x.orders(boat), -1);
            DUE.is("order" + at, x.order(boat, 0), -1);
            DUE.is("needs" + at, x.needs(boat, 0), -1);
        }
    }
}
