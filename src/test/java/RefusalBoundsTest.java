import java.util.ArrayList;
import java.util.List;
import java.util.function.Supplier;
import java.util.function.ToLongFunction;

/** What the head of the document and the first sentences of Terms say of all calls: refusals, NONE, fractions, 512 calls. */
public final class RefusalBoundsTest {
    private static final Due DUE = new Due("RefusalBoundsTest");
    private static final int LEAST = Integer.MIN_VALUE;
    private static final int MOST = Integer.MAX_VALUE;

    private record Call(String name, ToLongFunction<BoatsOfPaper> ask) { }

    public static void main(String[] args) {
        constants();
        noSuchBoat();
        noSuchLane();
        noSuchPlace();
        noSuchSlot();
        firstThatACallNames();
        refusedAllAtOnce();
        noneIsMinusNine();
        leastTerms();
        fractionsOfWholeNumbers();
        refusalsToldLikewise();
        questionsChangeNothing();
        fiveHundredAndTwelveCalls();
        DUE.end();
    }

    private static void still(List<Call> calls, Supplier<BoatsOfPaper> ready, long want) {
        for (Call call : calls) {
            DUE.still(call.name, ready, call.ask, want);
        }
    }

    /** Every call that names a BOAT, all other numbers being as told. */
    private static List<Call> ofBoat(int boat) {
        String at = " of boat " + boat;
        List<Call> calls = new ArrayList<>();
        calls.add(new Call("wax" + at, x -> x.wax(boat, 1, 1)));
        calls.add(new Call("coin" + at, x -> x.coin(boat, 0, 0, 1)));
        calls.add(new Call("empty" + at, x -> x.empty(boat)));
        calls.add(new Call("about" + at, x -> x.about(boat, 0)));
        calls.add(new Call("under" + at, x -> x.under(boat, 0)));
        calls.add(new Call("life" + at, x -> x.life(boat)));
        calls.add(new Call("bears" + at, x -> x.bears(boat, 1, 1)));
        calls.add(new Call("rim" + at, x -> x.rim(boat, 1)));
        calls.add(new Call("orders" + at, x -> x.orders(boat)));
        calls.add(new Call("order" + at, x -> x.order(boat, 0)));
        calls.add(new Call("needs" + at, x -> x.needs(boat, 0)));
        calls.add(new Call("time" + at, x -> x.time(boat, 0)));
        calls.add(new Call("first" + at, x -> x.first(boat, 0)));
        calls.add(new Call("best" + at, x -> x.best(boat)));
        for (boolean upper : new boolean[] {true, false}) {
            calls.add(new Call("deep" + at, x -> x.deep(boat, 0, upper)));
            calls.add(new Call("corner" + at, x -> x.corner(boat, 0, upper)));
            calls.add(new Call("far" + at, x -> x.far(boat, 0, upper)));
            calls.add(new Call("ended" + at, x -> x.ended(boat, 0, 0, upper)));
            calls.add(new Call("home" + at, x -> x.home(boat, 0, upper)));
            calls.add(new Call("whose" + at, x -> x.whose(0, 0, boat, upper)));
        }
        return calls;
    }

    private static List<Call> ofLane(int lane) {
        String at = " of lane " + lane;
        List<Call> calls = new ArrayList<>(ofPlace(lane, 0));
        calls.add(new Call("time" + at, x -> x.time(0, lane)));
        calls.add(new Call("first" + at, x -> x.first(0, lane)));
        for (boolean upper : new boolean[] {true, false}) {
            calls.add(new Call("far" + at, x -> x.far(0, lane, upper)));
            calls.add(new Call("home" + at, x -> x.home(0, lane, upper)));
        }
        return calls;
    }

    private static List<Call> ofPlace(int lane, int place) {
        String at = " of lane " + lane + " and place " + place;
        List<Call> calls = new ArrayList<>();
        calls.add(new Call("place" + at, x -> x.place(lane, place)));
        calls.add(new Call("likeliest" + at, x -> x.likeliest(lane, place)));
        for (boolean upper : new boolean[] {true, false}) {
            calls.add(new Call("ended" + at, x -> x.ended(0, lane, place, upper)));
            calls.add(new Call("whose" + at, x -> x.whose(lane, place, 0, upper)));
        }
        return calls;
    }

    /** Terms: "NONE is -9." It and the refusals are constants of the face. */
    private static void constants() {
        DUE.is("UNKNOWN", BoatsOfPaper.UNKNOWN, -1);
        DUE.is("OUTSIDE", BoatsOfPaper.OUTSIDE, -2);
        DUE.is("STATE", BoatsOfPaper.STATE, -3);
        DUE.is("FULL", BoatsOfPaper.FULL, -4);
        DUE.is("NONE", BoatsOfPaper.NONE, -9);
    }

    /** Terms: "UNKNOWN (there is no such BOAT," */
    private static void noSuchBoat() {
        still(ofBoat(0), BoatsOfPaper::new, -1);
        still(ofBoat(-1), BoatsOfPaper::new, -1);
        for (int boat : new int[] {-1, 2, 3, 5, 6, LEAST, MOST}) {
            still(ofBoat(boat), Seen::half, -1);
        }
        for (int boat : new int[] {-1, 6, 7, LEAST, MOST}) {
            still(ofBoat(boat), Seen::full, -1);
        }
        // the last one that there is is known by all, the one that was there is not
        for (Call call : ofBoat(1)) {
            long answer = call.ask.applyAsLong(Seen.half());
            DUE.is(call.name + " is known", answer == -1 ? 1 : 0, 0);
        }
        still(ofBoat(1), () -> {
            BoatsOfPaper x = Seen.half();
            x.again(0);
            return x;
        }, -1);
    }

    /** Terms: "LANE," there are two, and none is one less or one more. */
    private static void noSuchLane() {
        for (int lane : new int[] {-1, 2, 3, LEAST, MOST}) {
            still(ofLane(lane), Seen::half, -1);
        }
        for (int lane : new int[] {-1, 3, LEAST, MOST}) {
            still(ofLane(lane), Seen::full, -1);
        }
        for (Call call : ofLane(1)) {
            DUE.is(call.name + " is known", call.ask.applyAsLong(Seen.half()) == -1 ? 1 : 0, 0);
        }
        for (Call call : ofLane(2)) {
            DUE.is(call.name + " is known", call.ask.applyAsLong(Seen.full()) == -1 ? 1 : 0, 0);
        }
    }

    /** Terms: "PLACE, SLOT)," four PLACES each, and twelve. */
    private static void noSuchPlace() {
        for (int place : new int[] {-1, 4, 5, 12, LEAST, MOST}) {
            still(ofPlace(1, place), Seen::half, -1);
        }
        for (int place : new int[] {-1, 12, LEAST, MOST}) {
            still(ofPlace(2, place), Seen::full, -1);
        }
        for (Call call : ofPlace(1, 3)) {
            DUE.is(call.name + " is known", call.ask.applyAsLong(Seen.half()) == -1 ? 1 : 0, 0);
        }
        for (Call call : ofPlace(2, 11)) {
            DUE.is(call.name + " is known", call.ask.applyAsLong(Seen.full()) == -1 ? 1 : 0, 0);
        }
    }

    /** Terms: "PLACE, SLOT)," SLOTS are 0 and 1. */
    private static void noSuchSlot() {
        for (int slot : new int[] {-1, 2, LEAST, MOST}) {
            DUE.still("keep(" + slot + ")", Seen::full, x -> x.keep(slot), -1);
            DUE.still("again(" + slot + ")", Seen::full, x -> x.again(slot), -1);
        }
        DUE.is("keep(0)", Seen.full().keep(0), 6);
        DUE.is("keep(1)", Seen.full().keep(1), 6);
    }

    /** Terms: "REFUSALS, of several the first that a call names:", Terms: "OUTSIDE (another number is not as told), STATE (as told), FULL." */
    private static void firstThatACallNames() {
        DUE.still("write: OUTSIDE, FULL", Seen::full, x -> x.write(9, 0), -2);
        DUE.still("boat: OUTSIDE, FULL", Seen::full, x -> x.boat(9, 9, 0, 1), -2);
        DUE.still("wax: UNKNOWN, OUTSIDE", Seen::full, x -> x.wax(6, -1, 10), -1);
        DUE.still("coin: UNKNOWN, OUTSIDE", Seen::half, x -> x.coin(2, 0, 0, 0), -1);
        DUE.still("coin: OUTSIDE, FULL", Seen::full, x -> x.coin(0, 0, 0, 0), -2);
        DUE.still("about: UNKNOWN, OUTSIDE", Seen::half, x -> x.about(2, 11), -1);
        DUE.still("deep: UNKNOWN, OUTSIDE", Seen::half, x -> x.deep(2, 1000, true), -1);
        DUE.still("corner: UNKNOWN, OUTSIDE", Seen::half, x -> x.corner(2, -1, false), -1);
        DUE.still("under: UNKNOWN, OUTSIDE", Seen::half, x -> x.under(2, 1000), -1);
        DUE.still("bears: UNKNOWN, OUTSIDE", Seen::half, x -> x.bears(2, 0, 100), -1);
        DUE.still("rim: UNKNOWN, OUTSIDE", Seen::half, x -> x.rim(2, 0), -1);
        DUE.still("needs: UNKNOWN, OUTSIDE", Seen::half, x -> x.needs(2, 100), -1);
        DUE.still("first: UNKNOWN, STATE", BoatsOfPaper::new, x -> x.first(0, 0), -1);
        DUE.still("whose: UNKNOWN, STATE", BoatsOfPaper::new, x -> x.whose(0, 0, 0, true), -1);
        DUE.still("likeliest: UNKNOWN, STATE", BoatsOfPaper::new, x -> x.likeliest(1, 0), -1);
        DUE.still("rests: OUTSIDE, STATE", Seen::walled, x -> x.rests(0, 0), -2);
        DUE.still("split: OUTSIDE, STATE", Seen::walled, x -> x.split(1, 10), -2);
        DUE.still("run: OUTSIDE, FULL", Seen::full, x -> x.run(100, true), -2);
        DUE.still("again: UNKNOWN, STATE", BoatsOfPaper::new, x -> x.again(2), -1);
    }

    /** Terms: "What is refused changes nothing." One object after all that can be refused is as one that was never asked. */
    private static void refusedAllAtOnce() {
        BoatsOfPaper x = Seen.full();
        x.write(1, 0);
        x.write(0, 0);
        x.gutter();
        x.place(3, 0);
        x.mishap(10, 10);
        x.boat(9, 9, 1, 1);
        x.boat(2, 9, 1, 1);
        x.coin(0, 0, 0, 1);
        x.coin(0, 0, 0, 0);
        x.wax(0, 100, 0);
        for (Call call : ofBoat(6)) {
            DUE.is(call.name, call.ask.applyAsLong(x), -1);
        }
        for (Call call : ofLane(3)) {
            DUE.is(call.name, call.ask.applyAsLong(x), -1);
        }
        x.rests(0, 0);
        x.split(1, 10);
        x.run(1, true);
        x.run(100, true);
        x.keep(2);
        x.again(2);
        x.count(5);
        DUE.is("all is as it was", Seen.of(x).equals(Seen.of(Seen.full())) ? 1 : 0, 1);
    }

    /** Terms: "NONE is -9." Told by fault, life, order, needs and time. */
    private static void noneIsMinusNine() {
        BoatsOfPaper x = new BoatsOfPaper();
        x.write(1, '1');
        DUE.is("fault()", x.fault(), -9);
        x.boat(20, 19, 9, 9);
        DUE.is("life(0)", x.life(0), -9);
        DUE.is("order(0, 0)", x.order(0, 0), -9);
        x.boat(9, 9, 1, 1);
        DUE.is("needs(1, 99)", x.needs(1, 99), -9);
        Due.dig(x, "W");
        DUE.is("time(1, 0)", x.time(1, 0), -9);
    }

    /** Terms: "FRACTIONS are told above (upper = true), below (1 and more), in least terms;" */
    private static void leastTerms() {
        BoatsOfPaper x = Seen.half();
        List<long[]> told = new ArrayList<>();
        for (int boat = 0; boat < 2; boat++) {
            for (int s : new int[] {0, 1, 7, 500, 999}) {
                told.add(new long[] {x.deep(boat, s, true), x.deep(boat, s, false)});
                told.add(new long[] {x.corner(boat, s, true), x.corner(boat, s, false)});
            }
            for (int lane = 0; lane < 2; lane++) {
                told.add(new long[] {x.far(boat, lane, true), x.far(boat, lane, false)});
                told.add(new long[] {x.home(boat, lane, true), x.home(boat, lane, false)});
                for (int place = 0; place < 4; place++) {
                    told.add(new long[] {x.ended(boat, lane, place, true), x.ended(boat, lane, place, false)});
                }
            }
            told.add(new long[] {x.whose(0, 1, boat, true), x.whose(0, 1, boat, false)});
        }
        told.add(new long[] {x.red(true), x.red(false)});
        for (long[] one : told) {
            DUE.is("below is 1 and more: " + one[0] + " by " + one[1], one[1] >= 1 && one[0] >= 0 ? 1 : 0, 1);
            DUE.is("least terms: " + one[0] + " by " + one[1], common(one[0], one[1]), 1);
        }
    }

    private static long common(long above, long below) {
        return below == 0 ? above : common(below, above % below);
    }

    /** Terms: "below (1 and more), in least terms;": 0 is 0 by 1, and whole numbers are by 1. */
    private static void fractionsOfWholeNumbers() {
        BoatsOfPaper x = new BoatsOfPaper();
        int boat = Due.lives(x, 2);
        int sunk = Due.lives(x, -1);
        Due.dig(x, "11L/1W1/11D");
        DUE.isFraction("far of 0", x.far(sunk, 0, true), x.far(sunk, 0, false), 0, 1);
        DUE.isFraction("far of 2", x.far(boat, 0, true), x.far(boat, 0, false), 2, 1);
        DUE.isFraction("ended of 0", x.ended(boat, 0, 0, true), x.ended(boat, 0, 0, false), 0, 1);
        DUE.isFraction("ended of 1", x.ended(boat, 1, 1, true), x.ended(boat, 1, 1, false), 1, 1);
        DUE.isFraction("home of 0", x.home(boat, 0, true), x.home(boat, 0, false), 0, 1);
        DUE.isFraction("whose of 0", x.whose(1, 1, sunk, true), x.whose(1, 1, sunk, false), 0, 1);
        DUE.isFraction("whose of 1", x.whose(1, 1, boat, true), x.whose(1, 1, boat, false), 1, 1);
        Due.dig(x, "11");
        DUE.isFraction("home of 1", x.home(boat, 0, true), x.home(boat, 0, false), 1, 1);
        DUE.isFraction("red of 1", x.red(true), x.red(false), 1, 1);
        // 900 by 900, and 901
        DUE.isFraction("corner of 1", x.corner(boat, 2, true), x.corner(boat, 2, false), 1, 1);
        DUE.isFraction("deep of 1", x.deep(boat, 2, true), x.deep(boat, 2, false), 1, 1);
        DUE.isFraction("deep of more", x.deep(boat, 3, true), x.deep(boat, 3, false), 901, 900);
    }

    /** Terms: "refusals of them are told likewise." The same above and below. */
    private static void refusalsToldLikewise() {
        for (boolean upper : new boolean[] {true, false}) {
            BoatsOfPaper x = Seen.half();
            DUE.is("deep: UNKNOWN", x.deep(2, 0, upper), -1);
            DUE.is("deep: OUTSIDE", x.deep(0, 1000, upper), -2);
            DUE.is("corner: UNKNOWN", x.corner(2, 0, upper), -1);
            DUE.is("corner: OUTSIDE", x.corner(0, -1, upper), -2);
            DUE.is("far: UNKNOWN", x.far(0, 2, upper), -1);
            DUE.is("ended: UNKNOWN", x.ended(0, 0, 4, upper), -1);
            DUE.is("home: UNKNOWN", x.home(2, 0, upper), -1);
            DUE.is("whose: UNKNOWN", x.whose(0, 0, 2, upper), -1);
            DUE.is("whose: STATE", x.whose(1, 1, 0, upper), -3);
        }
    }

    /** Terms: "What is refused changes nothing." Nor does what is only asked, as Promise 5: "(that stays as it is, as all else does)" says of one. */
    private static void questionsChangeNothing() {
        BoatsOfPaper x = Seen.full();
        // the first and the last alone: with what made it and what is seen of it that is below 512 calls
        for (int boat : new int[] {0, 5}) {
            for (Call call : ofBoat(boat)) {
                if (!call.name.startsWith("wax") && !call.name.startsWith("coin") && !call.name.startsWith("empty")) {
                    call.ask.applyAsLong(x);
                }
            }
        }
        x.fault();
        x.rests(9, 9);
        x.split(9, 0);
        x.red(true);
        x.count(0);
        DUE.is("all is as it was", Seen.of(x).equals(Seen.of(Seen.full())) ? 1 : 0, 1);
    }

    /** What it is: "An object is used for at most 512 calls after it has been made; what later calls answer is free." */
    private static void fiveHundredAndTwelveCalls() {
        BoatsOfPaper x = new BoatsOfPaper();
        for (int call = 1; call <= 510; call += 5) {
            DUE.is("call " + call, x.write(8, 0x314C2F3131L << 24 | 0x2F4431), 8);
            DUE.is("call " + (call + 1), x.gutter(), 302);
            DUE.is("call " + (call + 2), x.run(call % 100, true), 1);
            DUE.is("call " + (call + 3), x.unrun(), 1);
            DUE.is("call " + (call + 4), x.wipe(), 8);
        }
        DUE.is("call 511", x.boat(9, 9, 1, 1), 0);
        DUE.is("call 512", x.time(0, 2), 2);
    }
}
