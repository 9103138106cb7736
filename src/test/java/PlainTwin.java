import java.math.BigInteger;
import java.util.ArrayList;
import java.util.List;

/**
 * The document once more, told as literally and slowly as can be: exact fractions of great numbers, every order
 * of COINS, every way of blowing, every deal. TwinTest asks it and the class the same.
 */
final class PlainTwin {
    private static final int UNKNOWN = -1, OUTSIDE = -2, STATE = -3, FULL = -4, NONE = -9;

    private record Coin(int i, int j, int weight) { }

    private record Run(int far, boolean red) { }

    private static final class Boat {
        int l, w, t, h, drinks = 10, wax = 0;
        List<Coin> coins = new ArrayList<>();

        Boat twin() {
            Boat other = new Boat();
            other.l = l;
            other.w = w;
            other.t = t;
            other.h = h;
            other.drinks = drinks;
            other.wax = wax;
            other.coins = new ArrayList<>(coins);
            return other;
        }
    }

    private String text = "";
    private String[] lanes = {"1"};
    private int x = 3, y = 2;
    private List<Boat> boats = new ArrayList<>();
    private List<Run> runs = new ArrayList<>();
    private final List<List<Boat>> keptBoats = new ArrayList<>(java.util.Arrays.asList(null, null));
    private final List<List<Run>> keptRuns = new ArrayList<>(java.util.Arrays.asList(null, null));

    // ---- fractions

    private record Ratio(BigInteger above, BigInteger below) implements Comparable<Ratio> {
        static final Ratio ZERO = of(0, 1);
        static final Ratio ONE = of(1, 1);

        static Ratio of(long above, long below) {
            return make(BigInteger.valueOf(above), BigInteger.valueOf(below));
        }

        static Ratio make(BigInteger above, BigInteger below) {
            BigInteger g = above.gcd(below);
            return new Ratio(above.divide(g), below.divide(g));
        }

        Ratio plus(Ratio o) {
            return make(above.multiply(o.below).add(o.above.multiply(below)), below.multiply(o.below));
        }

        Ratio times(Ratio o) {
            return make(above.multiply(o.above), below.multiply(o.below));
        }

        Ratio by(Ratio o) {
            return make(above.multiply(o.below), below.multiply(o.above));
        }

        @Override
        public int compareTo(Ratio o) {
            return above.multiply(o.below).compareTo(o.above.multiply(below));
        }

        long tell(boolean upper) {
            return (upper ? above : below).longValueExact();
        }
    }

    // ---- the gutter

    int write(int n, long v) {
        if (n < 1 || n > 8) {
            return OUTSIDE;
        }
        if (text.length() + n > 40) {
            return FULL;
        }
        String hex = String.format("%016x", v);
        for (int k = 16 - 2 * n; k < 16; k += 2) {
            text += (char) Integer.parseInt(hex.substring(k, k + 2), 16);
        }
        return text.length();
    }

    int wipe() {
        int was = text.length();
        text = "";
        return was;
    }

    int fault() {
        for (int k = 1; k <= text.length(); k++) {
            if (!canBegin(text.substring(0, k))) {
                return k - 1;
            }
        }
        return text.matches("[1-9LDW]{1,12}(/[1-9LDW]{1,12}){0,2}") && likeLong(text.split("/")) ? NONE : text.length();
    }

    private static boolean likeLong(String[] parts) {
        for (String part : parts) {
            if (part.length() != parts[0].length()) {
                return false;
            }
        }
        return true;
    }

    /** Whether some GUTTER of three LANES, each as long as the other, begins like this. */
    private static boolean canBegin(String start) {
        for (int wide = 1; wide <= 12; wide++) {
            for (int many = 1; many <= 3; many++) {
                String sample = ("1".repeat(wide) + "/").repeat(many);
                sample = sample.substring(0, sample.length() - 1);
                String shape = start.replaceAll("[1-9LDW]", "1");
                if (sample.startsWith(shape)) {
                    return true;
                }
            }
        }
        return false;
    }

    int gutter() {
        if (fault() != NONE) {
            return STATE;
        }
        lanes = text.split("/");
        return 100 * lanes.length + lanes[0].length();
    }

    private boolean noLane(int lane) {
        return lane < 0 || lane >= lanes.length;
    }

    private boolean noPlace(int lane, int place) {
        return noLane(lane) || place < 0 || place >= lanes[0].length();
    }

    int place(int lane, int place) {
        if (noPlace(lane, place)) {
            return UNKNOWN;
        }
        return "0123456789LDW".indexOf(lanes[lane].charAt(place));
    }

    int mishap(int newX, int newY) {
        if (newX < 0 || newX > 9 || newY < 0 || newY > 9) {
            return OUTSIDE;
        }
        int was = 10 * x + y;
        x = newX;
        y = newY;
        return was;
    }

    // ---- boats

    private boolean noBoat(int boat) {
        return boat < 0 || boat >= boats.size();
    }

    private static boolean noRim(int l, int w, int h) {
        return h < 1 || l - 2L * h < 1 || w - 2L * h < 1;
    }

    int boat(int l, int w, int t, int h) {
        if (l < 3 || l > 20 || w < 3 || w > 20 || t < 1 || t > 9 || noRim(l, w, h)) {
            return OUTSIDE;
        }
        if (boats.size() == 6) {
            return FULL;
        }
        Boat one = new Boat();
        one.l = l;
        one.w = w;
        one.t = t;
        one.h = h;
        boats.add(one);
        return boats.size() - 1;
    }

    int wax(int boat, int drinks, int wax) {
        if (noBoat(boat)) {
            return UNKNOWN;
        }
        if (drinks < 0 || drinks > 99 || wax < 0 || wax > 9) {
            return OUTSIDE;
        }
        int was = boats.get(boat).wax;
        boats.get(boat).drinks = drinks;
        boats.get(boat).wax = wax;
        return was;
    }

    int coin(int boat, int i, int j, int weight) {
        if (noBoat(boat)) {
            return UNKNOWN;
        }
        Boat one = boats.get(boat);
        if (i < 0 || i > a(one) - 1 || j < 0 || j > b(one) - 1 || weight < 1 || weight > 99) {
            return OUTSIDE;
        }
        if (one.coins.size() == 8) {
            return FULL;
        }
        one.coins.add(new Coin(i, j, weight));
        return one.coins.size() - 1;
    }

    int empty(int boat) {
        if (noBoat(boat)) {
            return UNKNOWN;
        }
        int were = boats.get(boat).coins.size();
        boats.get(boat).coins.clear();
        return were;
    }

    private static int a(Boat one) {
        return one.l - 2 * one.h;
    }

    private static int b(Boat one) {
        return one.w - 2 * one.h;
    }

    private static int m(Boat one, List<Coin> coins) {
        return coins.stream().mapToInt(c -> c.weight * (2 * c.i + 1 - a(one))).sum();
    }

    private static int n(Boat one, List<Coin> coins) {
        return coins.stream().mapToInt(c -> c.weight * (2 * c.j + 1 - b(one))).sum();
    }

    int about(int boat, int what) {
        if (noBoat(boat)) {
            return UNKNOWN;
        }
        if (what < 0 || what > 10) {
            return OUTSIDE;
        }
        Boat one = boats.get(boat);
        return new int[] {one.l, one.w, one.t, one.h, a(one), b(one), one.drinks, one.wax, one.coins.size(),
            100000 + m(one, one.coins), 100000 + n(one, one.coins)}[what];
    }

    private static long weight(Boat one, List<Coin> coins, int s) {
        return one.l * one.w * one.t + coins.stream().mapToInt(Coin::weight).sum() + (long) s * one.drinks;
    }

    private static Ratio depth(Boat one, List<Coin> coins, int s) {
        return Ratio.of(weight(one, coins, s), 100L * a(one) * b(one));
    }

    /** What the corner is deeper by than the boat: 3 m by 100 a a b, and 3 n by 100 a b b. */
    private static Ratio cornerDepth(Boat one, List<Coin> coins, int s) {
        long a = a(one);
        long b = b(one);
        return depth(one, coins, s).plus(Ratio.of(3L * Math.abs(m(one, coins)), 100 * a * a * b))
            .plus(Ratio.of(3L * Math.abs(n(one, coins)), 100 * a * b * b));
    }

    private static boolean isUnder(Boat one, List<Coin> coins, int s) {
        return cornerDepth(one, coins, s).compareTo(Ratio.of(one.h, 1)) > 0;
    }

    private static boolean isSoft(Boat one, int wax, int s) {
        return s >= 10 * one.t + 5 * wax + 1;
    }

    long deep(int boat, int s, boolean upper) {
        if (noBoat(boat)) {
            return UNKNOWN;
        }
        if (s < 0 || s > 999) {
            return OUTSIDE;
        }
        return depth(boats.get(boat), boats.get(boat).coins, s).tell(upper);
    }

    long corner(int boat, int s, boolean upper) {
        if (noBoat(boat)) {
            return UNKNOWN;
        }
        if (s < 0 || s > 999) {
            return OUTSIDE;
        }
        return cornerDepth(boats.get(boat), boats.get(boat).coins, s).tell(upper);
    }

    int under(int boat, int s) {
        if (noBoat(boat)) {
            return UNKNOWN;
        }
        if (s < 0 || s > 999) {
            return OUTSIDE;
        }
        return isUnder(boats.get(boat), boats.get(boat).coins, s) ? 1 : 0;
    }

    int life(int boat) {
        if (noBoat(boat)) {
            return UNKNOWN;
        }
        Boat one = boats.get(boat);
        int last = NONE;
        for (int s = 0; s <= 999 && !isSoft(one, one.wax, s) && !isUnder(one, one.coins, s); s++) {
            last = s;
        }
        return last;
    }

    int bears(int boat, int h, int weight) {
        if (noBoat(boat)) {
            return UNKNOWN;
        }
        Boat one = boats.get(boat);
        if (noRim(one.l, one.w, h) || weight < 1 || weight > 99) {
            return OUTSIDE;
        }
        Boat other = one.twin();
        other.h = h;
        int many = 0;
        Ratio rim = Ratio.of(h, 1);
        long floor = 100L * a(other) * b(other);
        while (Ratio.of(weight(other, List.of(), 0) + (many + 1L) * weight, floor).compareTo(rim) <= 0) {
            many++;
        }
        return many;
    }

    int rim(int boat, int weight) {
        if (noBoat(boat)) {
            return UNKNOWN;
        }
        if (weight < 1 || weight > 99) {
            return OUTSIDE;
        }
        int most = -1;
        int best = NONE;
        for (int h = 1; h < 10; h++) {
            if (bears(boat, h, weight) > most) {
                most = bears(boat, h, weight);
                best = h;
            }
        }
        return best;
    }

    /** All orders that go on from what lies already, the least first. */
    private static void lay(Boat one, List<Integer> laid, List<List<Integer>> found) {
        List<Coin> coins = laid.stream().map(one.coins::get).toList();
        if (isUnder(one, coins, 0)) {
            return;
        }
        if (laid.size() == one.coins.size()) {
            found.add(new ArrayList<>(laid));
            return;
        }
        for (int k = 0; k < one.coins.size(); k++) {
            if (!laid.contains(k)) {
                laid.add(k);
                lay(one, laid, found);
                laid.remove(laid.size() - 1);
            }
        }
    }

    private List<List<Integer>> allOrders(int boat) {
        List<List<Integer>> found = new ArrayList<>();
        lay(boats.get(boat), new ArrayList<>(), found);
        return found;
    }

    int orders(int boat) {
        return noBoat(boat) ? UNKNOWN : allOrders(boat).size();
    }

    int order(int boat, int k) {
        if (noBoat(boat)) {
            return UNKNOWN;
        }
        List<List<Integer>> found = allOrders(boat);
        return found.isEmpty() || k < 0 || k >= found.get(0).size() ? NONE : found.get(0).get(k);
    }

    int needs(int boat, int seconds) {
        if (noBoat(boat)) {
            return UNKNOWN;
        }
        if (seconds < 0 || seconds > 99) {
            return OUTSIDE;
        }
        for (int wax = 0; wax < 10; wax++) {
            if (!isSoft(boats.get(boat), wax, seconds)) {
                return wax;
            }
        }
        return NONE;
    }

    // ---- in the gutter

    private int seconds(int lane, int place) {
        char sign = lanes[lane].charAt(place);
        return sign == 'L' ? 2 : sign == 'D' ? 1 : sign == 'W' ? 0 : sign - '0';
    }

    private Ratio passes(int lane, int place) {
        char sign = lanes[lane].charAt(place);
        return Ratio.of(10 - (sign == 'L' ? x : sign == 'D' ? y : sign == 'W' ? 10 : 0), 10);
    }

    private int wholeTime(int lane) {
        if (lanes[lane].indexOf('W') >= 0) {
            return NONE;
        }
        int sum = 0;
        for (int place = 0; place < lanes[0].length(); place++) {
            sum += seconds(lane, place);
        }
        return sum;
    }

    int time(int boat, int lane) {
        if (noBoat(boat) || noLane(lane)) {
            return UNKNOWN;
        }
        return wholeTime(lane) > life(boat) ? NONE : wholeTime(lane);
    }

    /** The chance to cross a PLACE, for one that starts at PLACE 0. */
    private Ratio crosses(int boat, int lane, int place) {
        int life = life(boat);
        Ratio chance = Ratio.ONE;
        int behind = 0;
        for (int k = 0; k <= place; k++) {
            behind += seconds(lane, k);
            chance = behind <= life ? chance.times(passes(lane, k)) : Ratio.ZERO;
        }
        return chance;
    }

    long far(int boat, int lane, boolean upper) {
        if (noBoat(boat) || noLane(lane)) {
            return UNKNOWN;
        }
        Ratio sum = Ratio.ZERO;
        for (int place = 0; place < lanes[0].length(); place++) {
            sum = sum.plus(crosses(boat, lane, place));
        }
        return sum.tell(upper);
    }

    private Ratio ends(int boat, int lane, int place) {
        Ratio comes = place == 0 ? Ratio.ONE : crosses(boat, lane, place - 1);
        return comes.plus(crosses(boat, lane, place).times(Ratio.of(-1, 1)));
    }

    long ended(int boat, int lane, int place, boolean upper) {
        if (noBoat(boat) || noPlace(lane, place)) {
            return UNKNOWN;
        }
        return ends(boat, lane, place).tell(upper);
    }

    /** Every way of blowing from a PLACE on. */
    private Ratio blown(int life, int lane, int place, int second) {
        int behind = second + seconds(lane, place);
        if (lanes[lane].charAt(place) == 'W' || behind > life) {
            return Ratio.ZERO;
        }
        Ratio on = place == lanes[0].length() - 1 ? Ratio.ONE : Ratio.ZERO;
        if (place < lanes[0].length() - 1) {
            for (int next = lane - 1; next <= lane + 1; next++) {
                on = maximum(on, blownInto(life, lane, next, place + 1, behind));
            }
        }
        return passes(lane, place).times(on);
    }

    private Ratio blownInto(int life, int from, int lane, int place, int second) {
        if (noLane(lane) || lanes[lane].charAt(place) == 'W') {
            return Ratio.ZERO;
        }
        return blown(life, lane, place, from == lane ? second : second + 1);
    }

    private static Ratio maximum(Ratio one, Ratio other) {
        return one.compareTo(other) >= 0 ? one : other;
    }

    long home(int boat, int lane, boolean upper) {
        if (noBoat(boat) || noLane(lane)) {
            return UNKNOWN;
        }
        return blown(life(boat), lane, 0, 0).tell(upper);
    }

    int first(int boat, int lane) {
        if (noBoat(boat) || noLane(lane)) {
            return UNKNOWN;
        }
        if (lanes[0].length() == 1) {
            return STATE;
        }
        Ratio home = blown(life(boat), lane, 0, 0);
        for (int next : new int[] {lane, lane - 1, lane + 1}) {
            Ratio so = passes(lane, 0).times(blownInto(life(boat), lane, next, 1, seconds(lane, 0)));
            if (so.compareTo(home) == 0) {
                return next;
            }
        }
        // no time even for PLACE 0: HOME is 0 wherever it would go
        return lane;
    }

    int best(int boat) {
        if (noBoat(boat)) {
            return UNKNOWN;
        }
        int best = 0;
        for (int lane = 0; lane < lanes.length; lane++) {
            if (blown(life(boat), lane, 0, 0).compareTo(blown(life(boat), best, 0, 0)) > 0) {
                best = lane;
            }
        }
        return best;
    }

    private Ratio allEnds(int lane, int place) {
        Ratio sum = Ratio.ZERO;
        for (int k = 0; k < boats.size(); k++) {
            sum = sum.plus(ends(k, lane, place));
        }
        return sum;
    }

    long whose(int lane, int place, int boat, boolean upper) {
        if (noPlace(lane, place) || noBoat(boat)) {
            return UNKNOWN;
        }
        Ratio sum = allEnds(lane, place);
        return sum.compareTo(Ratio.ZERO) == 0 ? STATE : ends(boat, lane, place).by(sum).tell(upper);
    }

    int likeliest(int lane, int place) {
        if (noPlace(lane, place)) {
            return UNKNOWN;
        }
        if (allEnds(lane, place).compareTo(Ratio.ZERO) == 0) {
            return STATE;
        }
        int likely = 0;
        for (int k = 0; k < boats.size(); k++) {
            if (ends(k, lane, place).compareTo(ends(likely, lane, place)) > 0) {
                likely = k;
            }
        }
        return likely;
    }

    // ---- many

    private List<Integer> allRests(int n, int c) {
        List<Integer> found = new ArrayList<>();
        for (int split = 999; split >= 0; split--) {
            int[] in = {split / 100, split / 10 % 10, split % 10};
            if (in[0] + in[1] + in[2] == n && isRest(in, c)) {
                found.add(split);
            }
        }
        return found;
    }

    private boolean isRest(int[] in, int c) {
        for (int from = 0; from < 3; from++) {
            if (in[from] > 0 && (noLane(from) || wholeTime(from) == NONE)) {
                return false;
            }
            for (int to = 0; to < 3; to++) {
                if (in[from] > 0 && to != from && !noLane(to) && wholeTime(to) != NONE
                    && wholeTime(to) + c * in[to] < wholeTime(from) + c * (in[from] - 1)) {
                    return false;
                }
            }
        }
        return true;
    }

    private int refusal(int n, int c) {
        if (n < 1 || n > 9 || c < 0 || c > 9) {
            return OUTSIDE;
        }
        for (int lane = 0; lane < lanes.length; lane++) {
            if (wholeTime(lane) != NONE) {
                return 0;
            }
        }
        return STATE;
    }

    int rests(int n, int c) {
        return refusal(n, c) < 0 ? refusal(n, c) : allRests(n, c).size();
    }

    int split(int n, int c) {
        if (refusal(n, c) < 0) {
            return refusal(n, c);
        }
        List<Integer> found = allRests(n, c);
        return found.isEmpty() ? NONE : found.get(0);
    }

    int run(int far, boolean red) {
        if (far < 0 || far > 99) {
            return OUTSIDE;
        }
        if (runs.size() == 12) {
            return FULL;
        }
        runs.add(new Run(far, red));
        return runs.size();
    }

    int unrun() {
        int were = runs.size();
        runs.clear();
        return were;
    }

    private long deals(int from, int reds, int need) {
        if (from == runs.size()) {
            return reds == 0 && need <= 0 ? 1 : 0;
        }
        return deals(from + 1, reds, need) + (reds > 0 ? deals(from + 1, reds - 1, need - runs.get(from).far) : 0);
    }

    long red(boolean upper) {
        int reds = (int) runs.stream().filter(Run::red).count();
        int together = runs.stream().filter(Run::red).mapToInt(Run::far).sum();
        return Ratio.of(deals(0, reds, together), deals(0, reds, -9999)).tell(upper);
    }

    // ---- slots

    private static List<Boat> twins(List<Boat> boats) {
        return new ArrayList<>(boats.stream().map(Boat::twin).toList());
    }

    int keep(int slot) {
        if (slot < 0 || slot > 1) {
            return UNKNOWN;
        }
        keptBoats.set(slot, twins(boats));
        keptRuns.set(slot, new ArrayList<>(runs));
        return boats.size();
    }

    int again(int slot) {
        if (slot < 0 || slot > 1) {
            return UNKNOWN;
        }
        if (keptBoats.get(slot) == null) {
            return STATE;
        }
        boats = twins(keptBoats.get(slot));
        runs = new ArrayList<>(keptRuns.get(slot));
        return boats.size();
    }

    int count(int what) {
        if (what < 0 || what > 4) {
            return OUTSIDE;
        }
        return new int[] {text.length(), boats.size(), boats.stream().mapToInt(b -> b.coins.size()).sum(), runs.size(),
            (int) runs.stream().filter(Run::red).count()}[what];
    }
}
