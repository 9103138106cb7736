/** The bounds that the third part of Terms and promises 22 to 29 name, each sentence by a test of its own. */
public final class DriftBoundsTest {
    private static final Due DUE = new Due("DriftBoundsTest");
    private static final int LEAST = Integer.MIN_VALUE;
    private static final int MOST = Integer.MAX_VALUE;
    private static final int NO_LIFE = -1;

    public static void main(String[] args) {
        crossesWithinItsLife();
        endsAtAWall();
        endsWhereItSticksOrFalls();
        homeBehindTheLastPlace();
        timeTillHome();
        timeNone();
        timeUnknown();
        farInTheMean();
        farUnknown();
        endedAtPlaces();
        endedUnknown();
        blownBehindEachPlaceButTheLast();
        blownToTheNextLane();
        blownForASecondMore();
        blownToNoWall();
        homeWithinItsLife();
        homeUnknown();
        firstItsOwn();
        firstTheOneBefore();
        firstByChance();
        firstRefused();
        bestOfLikeOnes();
        bestUnknown();
        lifeNone();
        whoseOfAllBoats();
        whoseByChance();
        whoseState();
        whoseUnknown();
        likeliestOfLikeOnes();
        likeliestRefused();
        DUE.end();
    }

    private static BoatsOfPaper gutterOf(String signs) {
        BoatsOfPaper x = new BoatsOfPaper();
        DUE.is("gutter() of " + signs, Due.dig(x, signs) > 0 ? 1 : 0, 1);
        return x;
    }

    private static void far(String what, BoatsOfPaper x, int boat, int lane, long above, long below) {
        DUE.isFraction("far: " + what, x.far(boat, lane, true), x.far(boat, lane, false), above, below);
    }

    private static void ended(String what, BoatsOfPaper x, int[] at, long above, long below) {
        DUE.isFraction("ended at " + at[2] + ": " + what, x.ended(at[0], at[1], at[2], true), x.ended(at[0], at[1], at[2], false),
            above, below);
    }

    private static void home(String what, BoatsOfPaper x, int boat, int lane, long above, long below) {
        DUE.isFraction("home: " + what, x.home(boat, lane, true), x.home(boat, lane, false), above, below);
    }

    private static void whose(String what, BoatsOfPaper x, int[] at, long above, long below) {
        DUE.isFraction("whose " + at[2] + ": " + what, x.whose(at[0], at[1], at[2], true), x.whose(at[0], at[1], at[2], false),
            above, below);
    }

    /** Terms: "A BOAT DRIFTS in a LANE from PLACE 0 on, as long as it LIVES: it crosses a PLACE, if as many seconds as that takes do not go beyond its LIFE;" */
    private static void crossesWithinItsLife() {
        for (int life = NO_LIFE; life <= 13; life++) {
            BoatsOfPaper x = gutterOf("111111111111");
            Due.lives(x, life);
            int crossed = Math.max(0, Math.min(12, life));
            far("life " + life, x, 0, 0, crossed, 1);
            for (int place = 0; place < 12; place++) {
                ended("life " + life, x, new int[] {0, 0, place}, place == crossed ? 1 : 0, 1);
            }
        }
        // all seconds from PLACE 0 on count: 4 and 5
        for (int life = 3; life <= 10; life++) {
            BoatsOfPaper x = gutterOf("45");
            Due.lives(x, life);
            far("4 and 5, life " + life, x, 0, 0, life < 4 ? 0 : life < 9 ? 1 : 2, 1);
        }
    }

    /** Terms: "otherwise, or at a wall," */
    private static void endsAtAWall() {
        for (int wall = 0; wall < 12; wall++) {
            BoatsOfPaper x = gutterOf("1".repeat(wall) + "W" + "1".repeat(11 - wall));
            Due.lives(x, 135);
            far("wall at " + wall, x, 0, 0, wall, 1);
            for (int place = 0; place < 12; place++) {
                ended("wall at " + wall, x, new int[] {0, 0, place}, place == wall ? 1 : 0, 1);
            }
            DUE.is("time: wall at " + wall, x.time(0, 0), -9);
            home("wall at " + wall, x, 0, 0, 0, 1);
        }
        // of two walls it ENDS at the first; where it lives just to the wall, at the wall too
        BoatsOfPaper x = gutterOf("1WW");
        Due.lives(x, 1);
        Due.lives(x, 0);
        ended("two walls", x, new int[] {0, 0, 1}, 1, 1);
        ended("two walls", x, new int[] {0, 0, 2}, 0, 1);
        ended("it does not come to the wall", x, new int[] {1, 0, 0}, 1, 1);
        ended("it does not come to the wall", x, new int[] {1, 0, 1}, 0, 1);
    }

    /** Terms: "or where it sticks or falls, it ENDS there." */
    private static void endsWhereItSticksOrFalls() {
        BoatsOfPaper x = gutterOf("LD1");
        Due.lives(x, 4);
        ended("the leaf", x, new int[] {0, 0, 0}, 3, 10);
        ended("the drain", x, new int[] {0, 0, 1}, 7, 50);
        ended("open", x, new int[] {0, 0, 2}, 0, 1);
        far("7, 56 and 56 tenths", x, 0, 0, 91, 50);
        // with one second less it ENDS at the last one, if it comes there
        Due.lives(x, 3);
        ended("open, but too late", x, new int[] {1, 0, 2}, 14, 25);
        // with two less it ENDS at the drain, whether it falls or not; with three less at the leaf
        Due.lives(x, 2);
        ended("the drain, too late", x, new int[] {2, 0, 1}, 7, 10);
        ended("behind it", x, new int[] {2, 0, 2}, 0, 1);
        Due.lives(x, 1);
        ended("the leaf, too late", x, new int[] {3, 0, 0}, 1, 1);
        ended("behind it", x, new int[] {3, 0, 1}, 0, 1);
        x.mishap(0, 0);
        ended("no tenths: too late still", x, new int[] {3, 0, 0}, 1, 1);
        ended("no tenths", x, new int[] {0, 0, 0}, 0, 1);
        x.mishap(9, 9);
        ended("nine tenths", x, new int[] {0, 0, 0}, 9, 10);
        ended("nine tenths of one", x, new int[] {0, 0, 1}, 9, 100);
    }

    /** Terms: "Behind the last PLACE it is HOME." */
    private static void homeBehindTheLastPlace() {
        for (int places : new int[] {1, 2, 11, 12}) {
            for (int life = places - 1; life <= places + 1; life++) {
                BoatsOfPaper x = gutterOf("1".repeat(places));
                Due.lives(x, life);
                home(places + " places, life " + life, x, 0, 0, life < places ? 0 : 1, 1);
                DUE.is("time: " + places + " places, life " + life, x.time(0, 0), life < places ? -9 : places);
                ended(places + " places, life " + life, x, new int[] {0, 0, places - 1}, life < places ? 1 : 0, 1);
            }
        }
    }

    /** Terms: "TIME: the seconds till HOME without mishaps;" Promise 22: "TIME;" */
    private static void timeTillHome() {
        String[] signs = {"1", "9", "L", "D", "LD", "123456789LDD", "999999999999", "LLLLLLLLLLLL", "DDDDDDDDDDDD"};
        int[] seconds = {1, 9, 2, 1, 3, 49, 108, 24, 12};
        for (int k = 0; k < signs.length; k++) {
            for (int life = seconds[k] - 1; life <= seconds[k] + 1; life++) {
                BoatsOfPaper x = gutterOf(signs[k]);
                x.mishap(9, 9);
                Due.lives(x, life);
                DUE.is("time in " + signs[k] + ", life " + life, x.time(0, 0), life < seconds[k] ? -9 : seconds[k]);
            }
        }
        DUE.still("time(0, 0)", () -> {
            BoatsOfPaper x = Seen.half();
            Due.dig(x, "1LD4/W2L1");
            return x;
        }, x -> x.time(0, 0), 8);
    }

    /** Terms: "NONE: a wall, or it does not LIVE so long." Promise 22: "NONE." */
    private static void timeNone() {
        BoatsOfPaper x = gutterOf("W11/11W/111");
        Due.lives(x, 135);
        Due.lives(x, 2);
        Due.lives(x, 3);
        Due.lives(x, NO_LIFE);
        int[][] due = {{-9, -9, 3}, {-9, -9, -9}, {-9, -9, 3}, {-9, -9, -9}};
        for (int boat = 0; boat < 4; boat++) {
            for (int lane = 0; lane < 3; lane++) {
                DUE.is("time(" + boat + ", " + lane + ")", x.time(boat, lane), due[boat][lane]);
            }
        }
        // the way past the wall is not its LANE's
        Due.dig(x, "1W/11");
        DUE.is("time(0, 0)", x.time(0, 0), -9);
        Due.dig(x, "W");
        DUE.is("a wall alone", x.time(0, 0), -9);
    }

    /** Promise 22: "UNKNOWN: boat, lane." */
    private static void timeUnknown() {
        for (int wrong : new int[] {-1, 2, 3, LEAST, MOST}) {
            DUE.still("time(" + wrong + ", 0)", Seen::half, x -> x.time(wrong, 0), -1);
            DUE.still("time(0, " + wrong + ")", Seen::half, x -> x.time(0, wrong), -1);
            DUE.is("time(" + wrong + ", " + wrong + ")", Seen.half().time(wrong, wrong), -1);
        }
        DUE.is("time(1, 0)", Seen.half().time(1, 0), 8);
        DUE.is("time(1, 1)", Seen.half().time(1, 1), -9);
        DUE.is("none yet", new BoatsOfPaper().time(0, 0), -1);
    }

    /** Terms: "FAR: how many PLACES it crosses in the mean." Promise 23: "FAR." */
    private static void farInTheMean() {
        BoatsOfPaper x = gutterOf("L/D/1");
        Due.lives(x, 1);
        Due.lives(x, 2);
        far("too late for the leaf", x, 0, 0, 0, 1);
        far("just in time", x, 1, 0, 7, 10);
        far("a drain", x, 0, 1, 4, 5);
        far("open", x, 0, 2, 1, 1);
        x.mishap(0, 9);
        far("none sticks", x, 1, 0, 1, 1);
        far("nine of ten fall", x, 0, 1, 1, 10);
        BoatsOfPaper most = gutterOf("DDDDDDDDDDDD");
        Due.lives(most, 12);
        Due.lives(most, 11);
        most.mishap(0, 0);
        far("all twelve", most, 0, 0, 12, 1);
        far("all but one", most, 1, 0, 11, 1);
        most.mishap(0, 9);
        far("the least chance", most, 0, 0, 111111111111L, 1000000000000L);
        DUE.still("far(0, 0, true)", Seen::half, y -> y.far(0, 0, true), 52);
        DUE.still("far(0, 0, false)", Seen::half, y -> y.far(0, 0, false), 25);
    }

    /** Promise 23: "UNKNOWN." */
    private static void farUnknown() {
        for (boolean upper : new boolean[] {true, false}) {
            for (int wrong : new int[] {-1, 2, 3, LEAST, MOST}) {
                DUE.still("far(" + wrong + ", 0)", Seen::half, x -> x.far(wrong, 0, upper), -1);
                DUE.still("far(0, " + wrong + ")", Seen::half, x -> x.far(0, wrong, upper), -1);
            }
            DUE.is("none yet", new BoatsOfPaper().far(0, 0, upper), -1);
        }
    }

    /** Terms: "ENDED: the chance that it ENDS at a PLACE." Promise 24: "ENDED." */
    private static void endedAtPlaces() {
        // the first and the last PLACE, chances of 0 and 1 and the least one of twelve drains
        BoatsOfPaper x = gutterOf("1DDDDDDDDDDD/DDDDDDDDDDD1/DDDDDDDDDDDD");
        x.mishap(0, 9);
        Due.lives(x, 12);
        ended("open", x, new int[] {0, 0, 0}, 0, 1);
        ended("the first drain", x, new int[] {0, 0, 1}, 9, 10);
        ended("the last drain", x, new int[] {0, 0, 11}, 9, 100000000000L);
        ended("the first drain", x, new int[] {0, 1, 0}, 9, 10);
        ended("open, the last", x, new int[] {0, 1, 11}, 0, 1);
        ended("the last drain", x, new int[] {0, 2, 11}, 9, 1000000000000L);
        Due.lives(x, 11);
        ended("too late for the last", x, new int[] {1, 1, 11}, 1, 100000000000L);
        ended("too late for the last", x, new int[] {1, 2, 11}, 1, 100000000000L);
        DUE.still("ended(0, 1, 0, true)", Seen::half, y -> y.ended(0, 1, 0, true), 1);
        DUE.still("ended(0, 1, 0, false)", Seen::half, y -> y.ended(0, 1, 0, false), 1);
    }

    /** Promise 24: "UNKNOWN: boat, lane, place." */
    private static void endedUnknown() {
        for (boolean upper : new boolean[] {true, false}) {
            for (int wrong : new int[] {-1, 4, 12, LEAST, MOST}) {
                DUE.still("ended(" + wrong + ", 0, 0)", Seen::half, x -> x.ended(wrong, 0, 0, upper), -1);
                DUE.still("ended(0, " + wrong + ", 0)", Seen::half, x -> x.ended(0, wrong, 0, upper), -1);
                DUE.still("ended(0, 0, " + wrong + ")", Seen::half, x -> x.ended(0, 0, wrong, upper), -1);
            }
            DUE.is("boat 2 of 2", Seen.half().ended(2, 0, 0, upper), -1);
            DUE.is("lane 2 of 2", Seen.half().ended(0, 2, 0, upper), -1);
            DUE.is("place 3 of 4", Seen.half().ended(0, 0, 3, upper) >= 0 ? 1 : 0, 1);
            DUE.is("none yet", new BoatsOfPaper().ended(0, 0, 0, upper), -1);
        }
    }

    /** Terms: "BLOWN, it may behind each PLACE but the last go over" */
    private static void blownBehindEachPlaceButTheLast() {
        // one PLACE: there is none but the last
        BoatsOfPaper one = gutterOf("L/1/D");
        Due.lives(one, 135);
        home("one place", one, 0, 0, 7, 10);
        home("one place", one, 0, 1, 1, 1);
        home("one place", one, 0, 2, 4, 5);
        // two: behind the first
        BoatsOfPaper two = gutterOf("1L/L1");
        Due.lives(two, 135);
        home("two places", two, 0, 0, 1, 1);
        home("two places", two, 0, 1, 7, 10);
        // twelve: eleven times, for a second more each
        for (int life = 22; life <= 24; life++) {
            BoatsOfPaper x = gutterOf("1W1W1W1W1W1W/W1W1W1W1W1W1");
            Due.lives(x, life);
            home("eleven times, life " + life, x, 0, 0, life < 23 ? 0 : 1, 1);
            home("a wall at once, life " + life, x, 0, 1, 0, 1);
        }
        for (int life = 118; life <= 120; life++) {
            BoatsOfPaper x = gutterOf("9W9W9W9W9W9W/W9W9W9W9W9W9");
            Due.lives(x, life);
            home("the longest way, life " + life, x, 0, 0, life < 119 ? 0 : 1, 1);
        }
    }

    /** Terms: "to the next LANE," not to the one behind that. */
    private static void blownToTheNextLane() {
        int[][] due = {{0, 1, 0, 1, 0, 1}, {0, 1, 0, 1, 1, 1}, {0, 1, 1, 1, 1, 1}, {49, 100, 1, 1, 1, 1}, {7, 10, 1, 1, 1, 1}, {7, 10, 1, 1, 1, 1}};
        for (int life = 2; life <= 7; life++) {
            BoatsOfPaper x = gutterOf("1LL/1LL/111");
            Due.lives(x, life);
            BoatsOfPaper y = gutterOf("111/1LL/1LL");
            Due.lives(y, life);
            for (int lane = 0; lane < 3; lane++) {
                home("from " + lane + ", life " + life, x, 0, lane, due[life - 2][2 * lane], due[life - 2][2 * lane + 1]);
                home("from " + (2 - lane) + " the other way, life " + life, y, 0, 2 - lane, due[life - 2][2 * lane], due[life - 2][2 * lane + 1]);
            }
        }
        // the last LANE is not next to the first
        BoatsOfPaper x = gutterOf("1L/1W/11");
        Due.lives(x, 135);
        home("two lanes over", x, 0, 0, 7, 10);
        DUE.is("first: two lanes over", x.first(0, 0), 0);
        BoatsOfPaper y = gutterOf("11/1W/1L");
        Due.lives(y, 135);
        home("two lanes back", y, 0, 2, 7, 10);
        DUE.is("first: two lanes back", y.first(0, 2), 2);
    }

    /** Terms: "for a second more," */
    private static void blownForASecondMore() {
        for (int life = 1; life <= 5; life++) {
            BoatsOfPaper x = gutterOf("13/11");
            Due.lives(x, life);
            home("over takes 3, staying 4: life " + life, x, 0, 0, life < 3 ? 0 : 1, 1);
            DUE.is("first: life " + life, x.first(0, 0), life == 3 ? 1 : 0);
            home("staying takes 2: life " + life, x, 0, 1, life < 2 ? 0 : 1, 1);
            BoatsOfPaper y = gutterOf("12/11");
            Due.lives(y, life);
            home("both take 3: life " + life, y, 0, 0, life < 3 ? 0 : 1, 1);
            DUE.is("first: both take 3, life " + life, y.first(0, 0), 0);
            // by the drain in 2, by going over in 4: till then it stays
            BoatsOfPaper after = gutterOf("1D/12");
            Due.lives(after, life);
            home("a drain or over, life " + life, after, 0, 0, life < 2 ? 0 : life < 4 ? 4 : 1, life < 2 || life > 3 ? 1 : 5);
            DUE.is("first: a drain or over, life " + life, after.first(0, 0), life < 4 ? 0 : 1);
            BoatsOfPaper before = gutterOf("12/1D");
            Due.lives(before, life);
            home("a drain or back, life " + life, before, 0, 1, life < 2 ? 0 : life < 4 ? 4 : 1, life < 2 || life > 3 ? 1 : 5);
            DUE.is("first: a drain or back, life " + life, before.first(0, 1), life < 4 ? 1 : 0);
        }
    }

    /** Terms: "if there is no wall at the PLACE that comes there." */
    private static void blownToNoWall() {
        BoatsOfPaper x = gutterOf("1L/1W");
        Due.lives(x, 135);
        home("a wall there", x, 0, 0, 7, 10);
        home("from its wall", x, 0, 1, 7, 10);
        DUE.is("first: a wall there", x.first(0, 0), 0);
        DUE.is("first: from its wall", x.first(0, 1), 0);
        Due.dig(x, "1L/W1");
        home("a wall beside it, not at the place that comes", x, 0, 0, 1, 1);
        DUE.is("first", x.first(0, 0), 1);
        Due.dig(x, "1W/1W");
        home("walls at both", x, 0, 0, 0, 1);
        DUE.is("first: walls at both", x.first(0, 0), 0);
        DUE.is("first: walls at both", x.first(0, 1), 1);
        // the wall behind is gone around: over and back
        for (int life = 3; life <= 6; life++) {
            BoatsOfPaper y = gutterOf("1L1/11W");
            Due.lives(y, life);
            home("over and back, life " + life, y, 0, 0, life < 4 ? 0 : life < 5 ? 7 : 1, life == 4 ? 10 : 1);
        }
    }

    /** Terms: "HOME by best blowing: the greatest chance to come HOME within its LIFE." Promise 25: "HOME by best blowing." */
    private static void homeWithinItsLife() {
        // tenths by LIFE 0 to 6: by its own way, by the drain, or by neither a leaf nor a drain, a second more each time
        int[][] tenths = {{0, 0, 0, 7, 7, 10, 10}, {0, 0, 0, 8, 10, 10, 10}, {0, 0, 8, 8, 8, 10, 10}};
        for (int life = 0; life <= 6; life++) {
            BoatsOfPaper x = gutterOf("1L/13/1D");
            Due.lives(x, life);
            for (int lane = 0; lane < 3; lane++) {
                int due = tenths[lane][life];
                home("from " + lane + ", life " + life, x, 0, lane, due == 0 ? 0 : due == 7 ? 7 : due == 8 ? 4 : 1,
                    due == 7 ? 10 : due == 8 ? 5 : 1);
            }
        }
        DUE.still("home(0, 0, true)", Seen::half, x -> x.home(0, 0, true), 3);
        DUE.still("home(0, 0, false)", Seen::half, x -> x.home(0, 0, false), 5);
    }

    /** Promise 25: "UNKNOWN." */
    private static void homeUnknown() {
        for (boolean upper : new boolean[] {true, false}) {
            for (int wrong : new int[] {-1, 2, 3, LEAST, MOST}) {
                DUE.still("home(" + wrong + ", 0)", Seen::half, x -> x.home(wrong, 0, upper), -1);
                DUE.still("home(0, " + wrong + ")", Seen::half, x -> x.home(0, wrong, upper), -1);
            }
            DUE.is("none yet", new BoatsOfPaper().home(0, 0, upper), -1);
        }
    }

    /** Terms: "FIRST: the LANE in which it then is behind PLACE 0 (its own, if that is as good;" Promise 26: "FIRST." */
    private static void firstItsOwn() {
        for (String sign : new String[] {"1", "9", "L", "D", "W"}) {
            BoatsOfPaper x = gutterOf("1" + sign + "/1" + sign + "/1" + sign);
            Due.lives(x, 135);
            for (int lane = 0; lane < 3; lane++) {
                DUE.is("all of " + sign + ": first(0, " + lane + ")", x.first(0, lane), lane);
            }
        }
        // its own is as good till the second that it takes more is one too many
        for (int life = 5; life <= 9; life++) {
            BoatsOfPaper x = gutterOf("11/15/11");
            Due.lives(x, life);
            DUE.is("first in the slow lane, life " + life, x.first(0, 1), life < 6 ? 0 : 1);
            DUE.is("first in a fast one, life " + life, x.first(0, 0), 0);
            DUE.is("first in the other, life " + life, x.first(0, 2), 2);
        }
        // where it does not come behind PLACE 0, no LANE is better
        BoatsOfPaper x = gutterOf("WL/11/9W");
        Due.lives(x, 8);
        DUE.is("a wall", x.first(0, 0), 0);
        DUE.is("too late", x.first(0, 2), 2);
        DUE.still("first(0, 0)", Seen::half, y -> y.first(0, 0), 1);
    }

    /** Terms: "then the one before it; then the other)." */
    private static void firstTheOneBefore() {
        BoatsOfPaper x = gutterOf("11/1L/11");
        Due.lives(x, 135);
        DUE.is("like ones on both sides", x.first(0, 1), 0);
        Due.dig(x, "1D/1L/11");
        DUE.is("a better one behind it", x.first(0, 1), 2);
        Due.dig(x, "11/1L/1D");
        DUE.is("a better one before it", x.first(0, 1), 0);
        Due.dig(x, "1W/1L/11");
        DUE.is("a wall before it", x.first(0, 1), 2);
        Due.dig(x, "11/1L/1W");
        DUE.is("a wall behind it", x.first(0, 1), 0);
        Due.dig(x, "1L/11/1L");
        DUE.is("the first has the other alone", x.first(0, 0), 1);
        DUE.is("the last has the one before alone", x.first(0, 2), 1);
        DUE.is("the midst has the best", x.first(0, 1), 1);
        // by time too: both sides 3 seconds, its own 4
        for (int life = 2; life <= 4; life++) {
            BoatsOfPaper y = gutterOf("11/13/11");
            Due.lives(y, life);
            DUE.is("life " + life, y.first(0, 1), life == 3 ? 0 : 1);
            BoatsOfPaper z = gutterOf("12/13/11");
            Due.lives(z, life);
            DUE.is("the one before too late, life " + life, z.first(0, 1), life == 3 ? 2 : 1);
        }
    }

    /** Terms: "(its own, if that is as good; then the one before it; then the other)": whatever lies in the three. */
    private static void firstByChance() {
        String signs = "WLD1";
        for (int code = 0; code < 64; code++) {
            int[] good = {code / 16, code / 4 % 4, code % 4};
            StringBuilder text = new StringBuilder();
            for (int lane = 0; lane < 3; lane++) {
                text.append(lane > 0 ? "/1" : "1").append(signs.charAt(good[lane]));
            }
            BoatsOfPaper x = gutterOf(text.toString());
            Due.lives(x, 135);
            DUE.is(text + " from 0", x.first(0, 0), good[1] > good[0] ? 1 : 0);
            DUE.is(text + " from 2", x.first(0, 2), good[1] > good[2] ? 1 : 2);
            int side = good[0] >= good[2] ? 0 : 2;
            DUE.is(text + " from 1", x.first(0, 1), good[side] > good[1] ? side : 1);
        }
    }

    /** Promise 26: "UNKNOWN; STATE: LANES have one PLACE alone." */
    private static void firstRefused() {
        for (String signs : new String[] {"1", "W", "L/1", "1/1/1"}) {
            DUE.still("first(0, 0) in " + signs, () -> {
                BoatsOfPaper x = Seen.half();
                Due.dig(x, signs);
                return x;
            }, x -> x.first(0, 0), -3);
            BoatsOfPaper x = gutterOf(signs);
            DUE.is("UNKNOWN ahead of STATE: boat", x.first(0, 0), -1);
            Due.lives(x, NO_LIFE);
            DUE.is("STATE, though its LIFE is NONE", x.first(0, 0), -3);
            DUE.is("UNKNOWN ahead of STATE: boat", x.first(1, 0), -1);
            DUE.is("UNKNOWN ahead of STATE: lane", x.first(0, 3), -1);
            DUE.is("UNKNOWN ahead of STATE: lane", x.first(0, -1), -1);
        }
        BoatsOfPaper two = gutterOf("11/11/11");
        Due.lives(two, 2);
        DUE.is("two places", two.first(0, 2), 2);
        for (int wrong : new int[] {-1, 2, 3, LEAST, MOST}) {
            DUE.still("first(" + wrong + ", 0)", Seen::half, x -> x.first(wrong, 0), -1);
            DUE.still("first(0, " + wrong + ")", Seen::half, x -> x.first(0, wrong), -1);
        }
    }

    /** Terms: "BEST LANE to set it in; of like ones the least." Promise 27: "BEST LANE." */
    private static void bestOfLikeOnes() {
        String signs = "WLD1";
        for (int code = 0; code < 64; code++) {
            int[] good = {code / 16, code / 4 % 4, code % 4};
            BoatsOfPaper x = gutterOf(signs.charAt(good[0]) + "/" + signs.charAt(good[1]) + "/" + signs.charAt(good[2]));
            Due.lives(x, 135);
            int best = good[0] >= good[1] && good[0] >= good[2] ? 0 : good[1] >= good[2] ? 1 : 2;
            DUE.is("best(0) of code " + code, x.best(0), best);
        }
        // of like ones till the first one takes a second too much
        for (int life = 0; life <= 4; life++) {
            BoatsOfPaper x = gutterOf("3/2/1");
            Due.lives(x, life);
            DUE.is("best(0), life " + life, x.best(0), life == 1 ? 2 : life == 2 ? 1 : 0);
        }
        BoatsOfPaper x = gutterOf("W/1");
        Due.lives(x, 1);
        DUE.is("the last of two", x.best(0), 1);
        DUE.still("best(0)", Seen::half, y -> y.best(0), 0);
    }

    /** Promise 27: "UNKNOWN." */
    private static void bestUnknown() {
        for (int wrong : new int[] {-1, 2, 6, LEAST, MOST}) {
            DUE.still("best(" + wrong + ")", Seen::half, x -> x.best(wrong), -1);
        }
        DUE.still("best(6)", Seen::full, x -> x.best(6), -1);
        DUE.is("best(5)", Seen.full().best(5) >= 0 ? 1 : 0, 1);
        DUE.is("none yet", new BoatsOfPaper().best(0), -1);
    }

    /** Terms: "(LIFE NONE: 0, and its own LANE.)" */
    private static void lifeNone() {
        for (String signs : new String[] {"11/1L/LL", "L1/11/11", "W1/11/11", "11/11/11"}) {
            BoatsOfPaper x = gutterOf(signs);
            Due.lives(x, NO_LIFE);
            Due.lives(x, 0);
            Due.lives(x, 135);
            DUE.is("life(0)", x.life(0), -9);
            DUE.is("life(1)", x.life(1), 0);
            for (int boat = 0; boat < 2; boat++) {
                for (int lane = 0; lane < 3; lane++) {
                    String what = signs + ", boat " + boat + " in " + lane;
                    home(what, x, boat, lane, 0, 1);
                    DUE.is("first: " + what, x.first(boat, lane), lane);
                    DUE.is("time: " + what, x.time(boat, lane), -9);
                    far(what, x, boat, lane, 0, 1);
                    // it crosses no PLACE, so it ENDS at the first one
                    ended(what, x, new int[] {boat, lane, 0}, 1, 1);
                    ended(what, x, new int[] {boat, lane, 1}, 0, 1);
                }
                DUE.is("best: " + signs, x.best(boat), 0);
            }
            DUE.is("best of one that lives: " + signs, x.best(2), signs.charAt(0) == '1' ? 0 : 1);
        }
    }

    /** Terms: "A WRECK lies at a PLACE of a LANE: it is one of all BOATS, each as likely set in there: WHOSE by what chance;" Promise 28: "WHOSE: the chance that a WRECK is a BOAT." */
    private static void whoseOfAllBoats() {
        for (int many = 1; many <= 6; many++) {
            BoatsOfPaper x = gutterOf("1W/L1/11");
            for (int boat = 0; boat < many; boat++) {
                x.boat(20, 20, 9, 3);
            }
            for (int boat = 0; boat < many; boat++) {
                whose("of " + many + " at a wall", x, new int[] {0, 1, boat}, 1, many);
                whose("of " + many + " at a leaf", x, new int[] {1, 0, boat}, 1, many);
            }
            DUE.is("no such boat", x.whose(0, 1, many, true), -1);
        }
    }

    /** Terms: "each as likely set in there: WHOSE by what chance;" by its LIFE just, one below it and one above it. */
    private static void whoseByChance() {
        BoatsOfPaper x = gutterOf("5L1/LLL");
        Due.lives(x, 4);
        Due.lives(x, 5);
        Due.lives(x, 6);
        Due.lives(x, 7);
        Due.lives(x, 8);
        // at PLACE 0 the first alone; at PLACE 1 of tenths 0, 10, 10, 3, 3; at PLACE 2 of 0, 0, 0, 7, 0
        int[][] above = {{1, 0, 0, 0, 0}, {0, 5, 5, 3, 3}, {0, 0, 0, 1, 0}};
        int[][] below = {{1, 1, 1, 1, 1}, {1, 13, 13, 26, 26}, {1, 1, 1, 1, 1}};
        for (int place = 0; place < 3; place++) {
            for (int boat = 0; boat < 5; boat++) {
                whose("at " + place, x, new int[] {0, place, boat}, above[place][boat], below[place][boat]);
            }
        }
        DUE.still("whose(1, 0, 0, true)", Seen::half, y -> y.whose(1, 0, 0, true), 1);
        DUE.still("whose(1, 0, 0, false)", Seen::half, y -> y.whose(1, 0, 0, false), 2);
    }

    /** Promise 28: "STATE: none can have ENDED there." Promise 29: "STATE." */
    private static void whoseState() {
        BoatsOfPaper x = gutterOf("12/L1/W1");
        Due.lives(x, 3);
        Due.lives(x, 4);
        int[][] none = {{0, 0}, {0, 1}, {1, 1}, {2, 1}};
        for (int[] at : none) {
            DUE.is("whose at " + at[0] + " " + at[1], x.whose(at[0], at[1], 0, true), -3);
            DUE.is("whose at " + at[0] + " " + at[1], x.whose(at[0], at[1], 1, false), -3);
            DUE.is("likeliest at " + at[0] + " " + at[1], x.likeliest(at[0], at[1]), -3);
        }
        // with a BOAT that lives one second less it can be there
        Due.lives(x, 2);
        whose("it can have ENDED there", x, new int[] {0, 1, 2}, 1, 1);
        whose("another can not", x, new int[] {0, 1, 0}, 0, 1);
        DUE.is("likeliest(0, 1)", x.likeliest(0, 1), 2);
        // a leaf by which none sticks, and by which one of ten does
        x.mishap(0, 9);
        DUE.is("whose by 0 tenths", x.whose(1, 0, 0, true), -3);
        DUE.is("likeliest by 0 tenths", x.likeliest(1, 0), -3);
        x.mishap(1, 0);
        whose("by 1 tenth", x, new int[] {1, 0, 0}, 1, 3);
        DUE.is("likeliest by 1 tenth", x.likeliest(1, 0), 0);
        DUE.still("whose(1, 1, 0, true)", Seen::half, y -> y.whose(1, 1, 0, true), -3);
        DUE.still("whose(1, 3, 1, false)", Seen::half, y -> y.whose(1, 3, 1, false), -3);
        DUE.still("likeliest(1, 1)", Seen::half, y -> y.likeliest(1, 1), -3);
        DUE.still("likeliest(0, 0) of none yet", BoatsOfPaper::new, y -> y.likeliest(0, 0), -3);
    }

    /** Promise 28: "UNKNOWN: lane, place, boat;" */
    private static void whoseUnknown() {
        for (boolean upper : new boolean[] {true, false}) {
            for (int wrong : new int[] {-1, 4, 12, LEAST, MOST}) {
                DUE.still("whose(" + wrong + ", 0, 0)", Seen::half, x -> x.whose(wrong, 0, 0, upper), -1);
                DUE.still("whose(0, " + wrong + ", 0)", Seen::half, x -> x.whose(0, wrong, 0, upper), -1);
                DUE.still("whose(0, 0, " + wrong + ")", Seen::half, x -> x.whose(0, 0, wrong, upper), -1);
            }
            DUE.is("lane 2 of 2", Seen.half().whose(2, 0, 0, upper), -1);
            DUE.is("boat 2 of 2, ahead of STATE", Seen.half().whose(1, 1, 2, upper), -1);
            DUE.is("lane 2 of 2, ahead of STATE", Seen.half().whose(2, 1, 0, upper), -1);
            DUE.is("place 4 of 4, ahead of STATE", Seen.half().whose(1, 4, 0, upper), -1);
            DUE.is("none yet, ahead of STATE", new BoatsOfPaper().whose(0, 0, 0, upper), -1);
        }
    }

    /** Terms: "the likeliest, of like ones the least." Promise 29: "The likeliest one." */
    private static void likeliestOfLikeOnes() {
        // at PLACE 1: 3 tenths of those that live 3 seconds, all of those that live less
        int[][] lives = {{3, 3, 3, 3, 3, 3}, {3, 3, 3, 3, 3, 2}, {3, 3, 2, 3, 2, 3}, {2, 2, 2, 2, 2, 2}, {0, 0, 3, 2, 0, 2},
            {0, 0, 0, 0, 0, 3}, {0, 0, 3, 0, 3, 0}};
        int[] due = {0, 5, 2, 0, 3, 5, 2};
        for (int row = 0; row < lives.length; row++) {
            BoatsOfPaper x = gutterOf("1L");
            for (int life : lives[row]) {
                Due.lives(x, life);
            }
            DUE.is("likeliest(0, 1) of row " + row, x.likeliest(0, 1), due[row]);
        }
        DUE.still("likeliest(1, 0)", Seen::half, x -> x.likeliest(1, 0), 0);
    }

    /** Promise 29: "UNKNOWN; STATE." */
    private static void likeliestRefused() {
        for (int wrong : new int[] {-1, 4, 12, LEAST, MOST}) {
            DUE.still("likeliest(" + wrong + ", 0)", Seen::half, x -> x.likeliest(wrong, 0), -1);
            DUE.still("likeliest(0, " + wrong + ")", Seen::half, x -> x.likeliest(0, wrong), -1);
        }
        DUE.is("lane 2 of 2, ahead of STATE", Seen.half().likeliest(2, 0), -1);
        DUE.is("of no boats, ahead of STATE", new BoatsOfPaper().likeliest(0, 1), -1);
        DUE.is("of no boats, ahead of STATE", new BoatsOfPaper().likeliest(1, 0), -1);
        DUE.is("of no boats", new BoatsOfPaper().likeliest(0, 0), -3);
    }
}
