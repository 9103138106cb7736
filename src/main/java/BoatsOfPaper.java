/**
 * Boats of paper, the gutter that they drift in, and red ones that go farther.
 * ../shared/DOC.md tells every call; words in capitals are its terms.
 */
public final class BoatsOfPaper {
    public static final int UNKNOWN = -1, OUTSIDE = -2, STATE = -3, FULL = -4, NONE = -9;

    private static final int MOST_BYTES = 40;
    private static final int MOST_LANES = 3;
    private static final int MOST_PLACES = 12;
    private static final int MOST_BOATS = 6;
    private static final int MOST_COINS = 8;
    private static final int MOST_RUNS = 12;
    private static final int MOST_SLOTS = 2;
    private static final int MOST_RIM = 9;
    private static final int MOST_WAX = 9;
    private static final int MOST_DRINKS = 99;
    private static final int MOST_WEIGHT = 99;
    private static final int MOST_FAR = 99;
    private static final int LAST_SECOND = 999;
    private static final int LONGEST_LIFE = 135;

    private static final int NO_KIND = 0;
    private static final int LEAF = 10;
    private static final int DRAIN = 11;
    private static final int WALL = 12;

    private final Text theText = new Text();
    private final Gutter theGutter = new Gutter();
    private final Fleet theFleet = new Fleet();
    private final Runs theRuns = new Runs();
    private final Slot[] slots = new Slot[MOST_SLOTS];
    private final Laying laying = new Laying();
    private final Drift drift = new Drift();
    private final Blowing blowing = new Blowing();
    private final Crowd crowd = new Crowd();

    public BoatsOfPaper() {
        for (int k = 0; k < slots.length; k++) {
            slots[k] = new Slot();
        }
    }

    // ---- the gutter

    public int write(int n, long v) {
        if (n < 1 || n > 8) {
            return OUTSIDE;
        }
        return theText.append(n, v);
    }

    public int wipe() {
        int was = theText.length;
        theText.length = 0;
        return was;
    }

    public int fault() {
        return theText.firstFault();
    }

    public int gutter() {
        if (theText.firstFault() != NONE) {
            return STATE;
        }
        theGutter.readFrom(theText);
        return 100 * theGutter.lanes + theGutter.places;
    }

    public int place(int lane, int place) {
        if (!theGutter.has(lane, place)) {
            return UNKNOWN;
        }
        return theGutter.kindAt(lane, place);
    }

    public int mishap(int x, int y) {
        if (!isWithin(x, 0, 9) || !isWithin(y, 0, 9)) {
            return OUTSIDE;
        }
        int was = 10 * theGutter.leafTenths + theGutter.drainTenths;
        theGutter.leafTenths = x;
        theGutter.drainTenths = y;
        return was;
    }

    // ---- boats

    public int boat(int l, int w, int t, int h) {
        if (!isWithin(l, 3, 20) || !isWithin(w, 3, 20) || !isWithin(t, 1, 9) || !canFold(l, w, h)) {
            return OUTSIDE;
        }
        return theFleet.launch(l, w, t, h);
    }

    public int wax(int boat, int drinks, int wax) {
        Boat one = theFleet.find(boat);
        if (one == null) {
            return UNKNOWN;
        }
        if (!isWithin(drinks, 0, MOST_DRINKS) || !isWithin(wax, 0, MOST_WAX)) {
            return OUTSIDE;
        }
        int was = one.waxed;
        one.drinks = drinks;
        one.waxed = wax;
        return was;
    }

    public int coin(int boat, int i, int j, int weight) {
        Boat one = theFleet.find(boat);
        if (one == null) {
            return UNKNOWN;
        }
        if (!isWithin(i, 0, one.a() - 1) || !isWithin(j, 0, one.b() - 1) || !isWithin(weight, 1, MOST_WEIGHT)) {
            return OUTSIDE;
        }
        return one.lay(i, j, weight);
    }

    public int empty(int boat) {
        Boat one = theFleet.find(boat);
        if (one == null) {
            return UNKNOWN;
        }
        int were = one.coins;
        one.coins = 0;
        return were;
    }

    public int about(int boat, int what) {
        Boat one = theFleet.find(boat);
        if (one == null) {
            return UNKNOWN;
        }
        switch (what) {
            case 0: return one.l;
            case 1: return one.w;
            case 2: return one.t;
            case 3: return one.h;
            case 4: return one.a();
            case 5: return one.b();
            case 6: return one.drinks;
            case 7: return one.waxed;
            case 8: return one.coins;
            case 9: return 100000 + one.momentM();
            case 10: return 100000 + one.momentN();
            default: return OUTSIDE;
        }
    }

    public long deep(int boat, int s, boolean upper) {
        Boat one = theFleet.find(boat);
        if (one == null) {
            return UNKNOWN;
        }
        if (!isWithin(s, 0, LAST_SECOND)) {
            return OUTSIDE;
        }
        return Fraction.tell(one.weightAt(s), 100L * one.cells(), upper);
    }

    public long corner(int boat, int s, boolean upper) {
        Boat one = theFleet.find(boat);
        if (one == null) {
            return UNKNOWN;
        }
        if (!isWithin(s, 0, LAST_SECOND)) {
            return OUTSIDE;
        }
        return Fraction.tell(one.cornerAt(s), one.cornerUnit(), upper);
    }

    public int under(int boat, int s) {
        Boat one = theFleet.find(boat);
        if (one == null) {
            return UNKNOWN;
        }
        if (!isWithin(s, 0, LAST_SECOND)) {
            return OUTSIDE;
        }
        return one.room(one.cornerAt(s)) < 0 ? 1 : 0;
    }

    public int life(int boat) {
        Boat one = theFleet.find(boat);
        if (one == null) {
            return UNKNOWN;
        }
        return one.lastSecond();
    }

    public int bears(int boat, int h, int weight) {
        Boat one = theFleet.find(boat);
        if (one == null) {
            return UNKNOWN;
        }
        if (!canFold(one.l, one.w, h) || !isWithin(weight, 1, MOST_WEIGHT)) {
            return OUTSIDE;
        }
        return one.load(h, weight);
    }

    public int rim(int boat, int weight) {
        Boat one = theFleet.find(boat);
        if (one == null) {
            return UNKNOWN;
        }
        if (!isWithin(weight, 1, MOST_WEIGHT)) {
            return OUTSIDE;
        }
        return one.strongestRim(weight);
    }

    public int orders(int boat) {
        Boat one = theFleet.find(boat);
        if (one == null) {
            return UNKNOWN;
        }
        return laying.countAll(one);
    }

    public int order(int boat, int k) {
        Boat one = theFleet.find(boat);
        if (one == null) {
            return UNKNOWN;
        }
        return laying.coinAt(one, k);
    }

    public int needs(int boat, int seconds) {
        Boat one = theFleet.find(boat);
        if (one == null) {
            return UNKNOWN;
        }
        if (!isWithin(seconds, 0, 99)) {
            return OUTSIDE;
        }
        return one.leastWax(seconds);
    }

    // ---- in the gutter

    public int time(int boat, int lane) {
        Boat one = theFleet.find(boat);
        if (one == null || !theGutter.hasLane(lane)) {
            return UNKNOWN;
        }
        int seconds = theGutter.laneSeconds(lane);
        if (theGutter.hasWall(lane) || seconds > one.lastSecond()) {
            return NONE;
        }
        return seconds;
    }

    public long far(int boat, int lane, boolean upper) {
        Boat one = theFleet.find(boat);
        if (one == null || !theGutter.hasLane(lane)) {
            return UNKNOWN;
        }
        drift.follow(theGutter, lane, one.lastSecond());
        return Fraction.tell(drift.crossed, Fraction.powerOfTen(theGutter.places), upper);
    }

    public long ended(int boat, int lane, int place, boolean upper) {
        Boat one = theFleet.find(boat);
        if (one == null || !theGutter.has(lane, place)) {
            return UNKNOWN;
        }
        drift.follow(theGutter, lane, one.lastSecond());
        return Fraction.tell(drift.endedAt(place), Fraction.powerOfTen(place + 1), upper);
    }

    public long home(int boat, int lane, boolean upper) {
        Boat one = theFleet.find(boat);
        if (one == null || !theGutter.hasLane(lane)) {
            return UNKNOWN;
        }
        blowing.lookAhead(theGutter, one.lastSecond());
        return Fraction.tell(blowing.homeFrom(theGutter, lane), Fraction.powerOfTen(theGutter.places), upper);
    }

    public int first(int boat, int lane) {
        Boat one = theFleet.find(boat);
        if (one == null || !theGutter.hasLane(lane)) {
            return UNKNOWN;
        }
        if (theGutter.places == 1) {
            return STATE;
        }
        blowing.lookAhead(theGutter, one.lastSecond());
        return blowing.laneBehindFirst(theGutter, lane);
    }

    public int best(int boat) {
        Boat one = theFleet.find(boat);
        if (one == null) {
            return UNKNOWN;
        }
        blowing.lookAhead(theGutter, one.lastSecond());
        return blowing.bestLane(theGutter);
    }

    public long whose(int lane, int place, int boat, boolean upper) {
        Boat one = theFleet.find(boat);
        if (one == null || !theGutter.has(lane, place)) {
            return UNKNOWN;
        }
        long all = 0;
        for (int k = 0; k < theFleet.size; k++) {
            all += wreckShare(k, lane, place);
        }
        if (all == 0) {
            return STATE;
        }
        return Fraction.tell(wreckShare(boat, lane, place), all, upper);
    }

    public int likeliest(int lane, int place) {
        if (!theGutter.has(lane, place)) {
            return UNKNOWN;
        }
        int likely = STATE;
        long greatest = 0;
        for (int k = 0; k < theFleet.size; k++) {
            long share = wreckShare(k, lane, place);
            if (share > greatest) {
                greatest = share;
                likely = k;
            }
        }
        return likely;
    }

    // ---- many

    public int rests(int n, int c) {
        if (!isWithin(n, 1, 9) || !isWithin(c, 0, 9)) {
            return OUTSIDE;
        }
        if (!crowd.look(theGutter)) {
            return STATE;
        }
        crowd.splitAll(n, c);
        return crowd.restCount;
    }

    public int split(int n, int c) {
        if (!isWithin(n, 1, 9) || !isWithin(c, 0, 9)) {
            return OUTSIDE;
        }
        if (!crowd.look(theGutter)) {
            return STATE;
        }
        crowd.splitAll(n, c);
        return crowd.firstRest;
    }

    public int run(int far, boolean red) {
        if (!isWithin(far, 0, MOST_FAR)) {
            return OUTSIDE;
        }
        return theRuns.add(far, red);
    }

    public int unrun() {
        int were = theRuns.size;
        theRuns.size = 0;
        return were;
    }

    public long red(boolean upper) {
        theRuns.dealAll();
        return Fraction.tell(theRuns.luckyDeals, theRuns.allDeals, upper);
    }

    // ---- slots

    public int keep(int slot) {
        Slot one = findSlot(slot);
        if (one == null) {
            return UNKNOWN;
        }
        one.fleet.copyFrom(theFleet);
        one.runs.copyFrom(theRuns);
        one.used = true;
        return theFleet.size;
    }

    public int again(int slot) {
        Slot one = findSlot(slot);
        if (one == null) {
            return UNKNOWN;
        }
        if (!one.used) {
            return STATE;
        }
        theFleet.copyFrom(one.fleet);
        theRuns.copyFrom(one.runs);
        return theFleet.size;
    }

    public int count(int what) {
        switch (what) {
            case 0: return theText.length;
            case 1: return theFleet.size;
            case 2: return theFleet.allCoins();
            case 3: return theRuns.size;
            case 4: return theRuns.reds();
            default: return OUTSIDE;
        }
    }

    private Slot findSlot(int slot) {
        if (slot < 0 || slot >= slots.length) {
            return null;
        }
        return slots[slot];
    }

    /** The chance that this BOAT ENDS there; all BOATS' chances at one PLACE have one denominator. */
    private long wreckShare(int boat, int lane, int place) {
        Boat one = theFleet.find(boat);
        if (one == null) {
            return 0;
        }
        drift.follow(theGutter, lane, one.lastSecond());
        return drift.endedAt(place);
    }

    private static boolean isWithin(int number, int least, int most) {
        return number >= least && number <= most;
    }

    /** The rim is looked at by itself first: a very great one would wrap around when doubled. */
    private static boolean canFold(int l, int w, int h) {
        return isWithin(h, 1, MOST_RIM) && l - 2 * h >= 1 && w - 2 * h >= 1;
    }

    /** THE TEXT. */
    private static final class Text {
        final int[] bytes = new int[MOST_BYTES];
        int length = 0;

        int append(int n, long v) {
            if (length + n > bytes.length) {
                return FULL;
            }
            for (int k = n - 1; k >= 0; k--) {
                bytes[length] = (int) ((v >>> (8 * k)) & 255L);
                length++;
            }
            return length;
        }

        int firstFault() {
            int lane = 0;
            int place = 0;
            int width = MOST_PLACES;
            for (int k = 0; k < length; k++) {
                if (bytes[k] == '/') {
                    if (lane == MOST_LANES - 1 || !isWhole(lane, place, width)) {
                        return k;
                    }
                    // the first LANE tells how wide each other one is
                    width = place;
                    lane++;
                    place = 0;
                } else {
                    if (place == width || Gutter.kindOf(bytes[k]) == NO_KIND) {
                        return k;
                    }
                    place++;
                }
            }
            return isWhole(lane, place, width) ? NONE : length;
        }

        private static boolean isWhole(int lane, int place, int width) {
            return lane == 0 ? place > 0 : place == width;
        }
    }

    /** THE GUTTER, and the mishaps in it. */
    private static final class Gutter {
        private final int[] kinds = new int[MOST_LANES * MOST_PLACES];
        int lanes = 1;
        int places = 1;
        int leafTenths = 3;
        int drainTenths = 2;

        Gutter() {
            kinds[0] = 1;
        }

        static int kindOf(int sign) {
            if (sign >= '1' && sign <= '9') {
                return sign - '0';
            }
            switch (sign) {
                case 'L': return LEAF;
                case 'D': return DRAIN;
                case 'W': return WALL;
                default: return NO_KIND;
            }
        }

        /** The text has no FAULT. */
        void readFrom(Text text) {
            int lane = 0;
            int place = 0;
            for (int k = 0; k < text.length; k++) {
                if (text.bytes[k] == '/') {
                    lane++;
                    place = 0;
                } else if (lane < MOST_LANES && place < MOST_PLACES) {
                    kinds[lane * MOST_PLACES + place] = kindOf(text.bytes[k]);
                    place++;
                }
            }
            lanes = lane + 1;
            places = place;
        }

        boolean hasLane(int lane) {
            return lane >= 0 && lane < lanes;
        }

        boolean has(int lane, int place) {
            return hasLane(lane) && place >= 0 && place < places;
        }

        int kindAt(int lane, int place) {
            if (!has(lane, place)) {
                return WALL;
            }
            return kinds[lane * MOST_PLACES + place];
        }

        /** A wall takes none, as nothing crosses it. */
        int secondsAt(int lane, int place) {
            int kind = kindAt(lane, place);
            switch (kind) {
                case LEAF: return 2;
                case DRAIN: return 1;
                case WALL: return 0;
                default: return kind;
            }
        }

        /** Of ten BOATS that live long enough, how many get across. */
        int tenthsAcross(int lane, int place) {
            switch (kindAt(lane, place)) {
                case LEAF: return 10 - leafTenths;
                case DRAIN: return 10 - drainTenths;
                case WALL: return 0;
                default: return 10;
            }
        }

        boolean hasWall(int lane) {
            for (int place = 0; place < places; place++) {
                if (kindAt(lane, place) == WALL) {
                    return true;
                }
            }
            return false;
        }

        int laneSeconds(int lane) {
            int sum = 0;
            for (int place = 0; place < places; place++) {
                sum += secondsAt(lane, place);
            }
            return sum;
        }
    }

    /** One BOAT and the COINS in it. */
    private static final class Boat {
        int l = 3;
        int w = 3;
        int t = 1;
        int h = 1;
        int drinks = 10;
        int waxed = 0;
        int coins = 0;
        private final int[] coinI = new int[MOST_COINS];
        private final int[] coinJ = new int[MOST_COINS];
        private final int[] coinWeight = new int[MOST_COINS];

        void fold(int length, int width, int thick, int rim) {
            l = length;
            w = width;
            t = thick;
            h = rim;
            drinks = 10;
            waxed = 0;
            coins = 0;
        }

        void copyFrom(Boat other) {
            fold(other.l, other.w, other.t, other.h);
            drinks = other.drinks;
            waxed = other.waxed;
            for (int k = 0; k < other.coins && k < MOST_COINS; k++) {
                lay(other.coinI[k], other.coinJ[k], other.coinWeight[k]);
            }
        }

        int lay(int i, int j, int weight) {
            if (coins >= MOST_COINS) {
                return FULL;
            }
            coinI[coins] = i;
            coinJ[coins] = j;
            coinWeight[coins] = weight;
            coins++;
            return coins - 1;
        }

        int a() {
            return l - 2 * h;
        }

        int b() {
            return w - 2 * h;
        }

        int cells() {
            return a() * b();
        }

        int weightOf(int coin) {
            return coin < 0 || coin >= coins ? 0 : coinWeight[coin];
        }

        /** What one COIN adds to m. */
        int pullM(int coin) {
            return coin < 0 || coin >= coins ? 0 : coinWeight[coin] * (2 * coinI[coin] + 1 - a());
        }

        /** What one COIN adds to n. */
        int pullN(int coin) {
            return coin < 0 || coin >= coins ? 0 : coinWeight[coin] * (2 * coinJ[coin] + 1 - b());
        }

        int momentM() {
            int sum = 0;
            for (int k = 0; k < coins; k++) {
                sum += pullM(k);
            }
            return sum;
        }

        int momentN() {
            int sum = 0;
            for (int k = 0; k < coins; k++) {
                sum += pullN(k);
            }
            return sum;
        }

        int weightEmpty() {
            return l * w * t;
        }

        int weightAt(int s) {
            int sum = weightEmpty() + s * drinks;
            for (int k = 0; k < coins; k++) {
                sum += weightOf(k);
            }
            return sum;
        }

        /** THE CORNER, counted in parts of which cornerUnit() make one. */
        long cornerOf(int weight, int m, int n) {
            return (long) weight * cells() + 3L * Math.abs(m) * b() + 3L * Math.abs(n) * a();
        }

        long cornerAt(int s) {
            return cornerOf(weightAt(s), momentM(), momentN());
        }

        long cornerUnit() {
            return 100L * cells() * cells();
        }

        /** How much of the rim is left above THE CORNER, in the same parts; less than 0 if it is UNDER. */
        long room(long corner) {
            return h * cornerUnit() - corner;
        }

        int lastFirmSecond(int wax) {
            return 10 * t + 5 * wax;
        }

        int lastSecond() {
            long left = room(cornerAt(0));
            if (left < 0) {
                return NONE;
            }
            int firm = lastFirmSecond(waxed);
            long deeperEachSecond = (long) drinks * cells();
            if (deeperEachSecond < 1) {
                return firm;
            }
            return (int) Math.min(firm, left / deeperEachSecond);
        }

        int leastWax(int seconds) {
            for (int wax = 0; wax <= MOST_WAX; wax++) {
                if (seconds <= lastFirmSecond(wax)) {
                    return wax;
                }
            }
            return NONE;
        }

        /** BEARS; with MOMENTS of 0 all corners lie as deep as the BOAT. */
        int load(int rim, int weight) {
            int floor = (l - 2 * rim) * (w - 2 * rim);
            int left = 100 * floor * rim - weightEmpty();
            if (left < 0 || weight < 1) {
                return 0;
            }
            return left / weight;
        }

        int strongestRim(int weight) {
            int strongest = 1;
            for (int rim = 2; rim <= MOST_RIM && canFold(l, w, rim); rim++) {
                if (load(rim, weight) > load(strongest, weight)) {
                    strongest = rim;
                }
            }
            return strongest;
        }
    }

    /** All BOATS; those that are not launched yet lie ready, so that no call makes one. */
    private static final class Fleet {
        private final Boat[] boats = new Boat[MOST_BOATS];
        int size = 0;

        Fleet() {
            for (int k = 0; k < boats.length; k++) {
                boats[k] = new Boat();
            }
        }

        Boat find(int boat) {
            if (boat < 0 || boat >= size || boat >= boats.length) {
                return null;
            }
            return boats[boat];
        }

        int launch(int l, int w, int t, int h) {
            if (size >= boats.length) {
                return FULL;
            }
            boats[size].fold(l, w, t, h);
            size++;
            return size - 1;
        }

        int allCoins() {
            int sum = 0;
            for (int k = 0; k < size; k++) {
                sum += boats[k].coins;
            }
            return sum;
        }

        void copyFrom(Fleet other) {
            size = other.size;
            for (int k = 0; k < size; k++) {
                boats[k].copyFrom(other.boats[k]);
            }
        }
    }

    /** ORDERS, by sets of COINS that lie already: a set is a number with a bit for each COIN. */
    private static final class Laying {
        private static final int SETS = 1 << MOST_COINS;
        private final int[] weights = new int[SETS];
        private final int[] pullsM = new int[SETS];
        private final int[] pullsN = new int[SETS];
        private final int[] ways = new int[SETS];

        int countAll(Boat boat) {
            int all = (1 << boat.coins) - 1;
            weighSets(boat);
            for (int set = all; set >= 0; set--) {
                ways[set] = waysOn(boat, set, all);
            }
            return ways[0];
        }

        /** Each set is weighed by the one without its last COIN, which is weighed before it. */
        private void weighSets(Boat boat) {
            weights[0] = boat.weightEmpty();
            pullsM[0] = 0;
            pullsN[0] = 0;
            for (int coin = 0; coin < boat.coins && coin < MOST_COINS; coin++) {
                int bit = 1 << coin;
                for (int rest = 0; rest < bit; rest++) {
                    weights[bit | rest] = weights[rest] + boat.weightOf(coin);
                    pullsM[bit | rest] = pullsM[rest] + boat.pullM(coin);
                    pullsN[bit | rest] = pullsN[rest] + boat.pullN(coin);
                }
            }
        }

        /** In how many orders the COINS outside the set can follow it; greater sets are counted before. */
        private int waysOn(Boat boat, int set, int all) {
            if (boat.room(boat.cornerOf(weights[set], pullsM[set], pullsN[set])) < 0) {
                return 0;
            }
            if (set == all) {
                return 1;
            }
            int sum = 0;
            for (int coin = 0; coin < boat.coins; coin++) {
                int more = set | 1 << coin;
                if (more != set) {
                    sum += ways[more];
                }
            }
            return sum;
        }

        int coinAt(Boat boat, int k) {
            if (k < 0 || k >= boat.coins || countAll(boat) == 0) {
                return NONE;
            }
            int set = 0;
            int coin = nextCoin(boat, set);
            for (int step = 0; step < k && coin >= 0; step++) {
                set |= 1 << coin;
                coin = nextCoin(boat, set);
            }
            return coin;
        }

        private int nextCoin(Boat boat, int set) {
            for (int coin = 0; coin < boat.coins; coin++) {
                int more = set | 1 << coin;
                if (more != set && ways[more] > 0) {
                    return coin;
                }
            }
            return NONE;
        }
    }

    /** One BOAT that DRIFTS in one LANE without being blown. */
    private static final class Drift {
        private final long[] ends = new long[MOST_PLACES];
        /** FAR, times 10 to the power of all PLACES. */
        long crossed = 0;

        void follow(Gutter gutter, int lane, int life) {
            // the chance to come to a PLACE, times 10 to the power of the PLACES before it
            long comes = 1;
            int seconds = 0;
            crossed = 0;
            for (int place = 0; place < gutter.places && place < ends.length; place++) {
                seconds += gutter.secondsAt(lane, place);
                int across = seconds > life ? 0 : gutter.tenthsAcross(lane, place);
                ends[place] = comes * (10 - across);
                comes *= across;
                crossed = 10 * crossed + comes;
            }
        }

        /** ENDED, times 10 to the power of the PLACES up to this one. */
        long endedAt(int place) {
            if (place < 0 || place >= ends.length) {
                return 0;
            }
            return ends[place];
        }
    }

    /** A BOAT that is BLOWN as well as can be. Chances are told times 10 to the power of the PLACES still to cross. */
    private static final class Blowing {
        private static final int SPAN = LONGEST_LIFE + 1;
        private long[] here = new long[MOST_LANES * SPAN];
        private long[] behind = new long[MOST_LANES * SPAN];
        private int life = NONE;

        /** From the last PLACE back, till it is known what lies behind PLACE 0 in each LANE at each second. */
        void lookAhead(Gutter gutter, int lifeOfBoat) {
            life = Math.min(lifeOfBoat, LONGEST_LIFE);
            for (int place = gutter.places - 1; place >= 1; place--) {
                for (int lane = 0; lane < gutter.lanes; lane++) {
                    lookFrom(gutter, lane, place);
                }
                long[] spare = behind;
                behind = here;
                here = spare;
            }
        }

        /** A PLACE takes 1 second at least, and 10 at most with the blowing: no other seconds are asked for. */
        private void lookFrom(Gutter gutter, int lane, int place) {
            int takes = gutter.secondsAt(lane, place);
            int across = gutter.tenthsAcross(lane, place);
            int latest = Math.min(life, 10 * place);
            for (int second = place; second <= latest; second++) {
                here[lane * SPAN + second] = across * chanceBehind(gutter, lane, place, second + takes);
            }
        }

        private long chanceBehind(Gutter gutter, int lane, int place, int second) {
            if (second > life) {
                return 0;
            }
            if (place == gutter.places - 1) {
                return 1;
            }
            long own = chanceIn(gutter, lane, second);
            long before = chanceIn(gutter, lane - 1, second + 1);
            long after = chanceIn(gutter, lane + 1, second + 1);
            return Math.max(own, Math.max(before, after));
        }

        /** A wall that comes there makes this 0, so that nothing is blown towards it. */
        private long chanceIn(Gutter gutter, int lane, int second) {
            if (!gutter.hasLane(lane) || second < 0 || second > life) {
                return 0;
            }
            return behind[lane * SPAN + second];
        }

        long homeFrom(Gutter gutter, int lane) {
            return gutter.tenthsAcross(lane, 0) * chanceBehind(gutter, lane, 0, gutter.secondsAt(lane, 0));
        }

        int bestLane(Gutter gutter) {
            int bestSoFar = 0;
            for (int lane = 1; lane < gutter.lanes; lane++) {
                if (homeFrom(gutter, lane) > homeFrom(gutter, bestSoFar)) {
                    bestSoFar = lane;
                }
            }
            return bestSoFar;
        }

        /** What can't come HOME at all stays in its own LANE, as no other is better. */
        int laneBehindFirst(Gutter gutter, int lane) {
            if (homeFrom(gutter, lane) == 0) {
                return lane;
            }
            int second = gutter.secondsAt(lane, 0);
            long own = chanceIn(gutter, lane, second);
            long before = chanceIn(gutter, lane - 1, second + 1);
            long after = chanceIn(gutter, lane + 1, second + 1);
            if (own >= before && own >= after) {
                return lane;
            }
            return before >= after ? lane - 1 : lane + 1;
        }
    }

    /** LANES that are CHOSEN by many. */
    private static final class Crowd {
        private final boolean[] isOpen = new boolean[MOST_LANES];
        private final int[] times = new int[MOST_LANES];
        private final int[] shares = new int[MOST_LANES];
        int restCount = 0;
        int firstRest = NONE;

        /** Whether there is a LANE without walls. */
        boolean look(Gutter gutter) {
            boolean any = false;
            for (int lane = 0; lane < MOST_LANES; lane++) {
                isOpen[lane] = gutter.hasLane(lane) && !gutter.hasWall(lane);
                times[lane] = gutter.laneSeconds(lane);
                any = any || isOpen[lane];
            }
            return any;
        }

        void splitAll(int n, int c) {
            restCount = 0;
            firstRest = NONE;
            for (int inFirst = n; inFirst >= 0; inFirst--) {
                for (int inSecond = n - inFirst; inSecond >= 0; inSecond--) {
                    shares[0] = inFirst;
                    shares[1] = inSecond;
                    shares[2] = n - inFirst - inSecond;
                    countIfAtRest(c);
                }
            }
        }

        private void countIfAtRest(int c) {
            for (int lane = 0; lane < MOST_LANES; lane++) {
                if (shares[lane] > 0 && (!isOpen[lane] || wouldLeave(lane, c))) {
                    return;
                }
            }
            restCount++;
            if (firstRest == NONE) {
                firstRest = 100 * shares[0] + 10 * shares[1] + shares[2];
            }
        }

        private boolean wouldLeave(int lane, int c) {
            int here = times[lane] + c * (shares[lane] - 1);
            for (int other = 0; other < MOST_LANES; other++) {
                if (other != lane && isOpen[other] && times[other] + c * shares[other] < here) {
                    return true;
                }
            }
            return false;
        }
    }

    /** RUNS. */
    private static final class Runs {
        private final int[] lengths = new int[MOST_RUNS];
        private final boolean[] isRed = new boolean[MOST_RUNS];
        int size = 0;
        int luckyDeals = 0;
        int allDeals = 0;

        int add(int length, boolean redOne) {
            if (size >= MOST_RUNS) {
                return FULL;
            }
            lengths[size] = length;
            isRed[size] = redOne;
            size++;
            return size;
        }

        int reds() {
            return Integer.bitCount(redSet());
        }

        void copyFrom(Runs other) {
            size = 0;
            for (int k = 0; k < other.size && k < MOST_RUNS; k++) {
                add(other.lengths[k], other.isRed[k]);
            }
        }

        void dealAll() {
            int dealt = redSet();
            int together = sumOf(dealt);
            int many = Integer.bitCount(dealt);
            luckyDeals = 0;
            allDeals = 0;
            for (int set = 0; set < 1 << size; set++) {
                if (Integer.bitCount(set) == many) {
                    allDeals++;
                    luckyDeals += sumOf(set) >= together ? 1 : 0;
                }
            }
        }

        private int redSet() {
            int set = 0;
            for (int k = 0; k < size; k++) {
                set |= isRed[k] ? 1 << k : 0;
            }
            return set;
        }

        private int sumOf(int set) {
            int sum = 0;
            for (int k = 0; k < size; k++) {
                sum += (set >> k & 1) * lengths[k];
            }
            return sum;
        }
    }

    /** BOATS and RUNS as they were kept. */
    private static final class Slot {
        final Fleet fleet = new Fleet();
        final Runs runs = new Runs();
        boolean used = false;
    }

    /** FRACTIONS of numbers that are 0 and more by numbers that are 1 and more. */
    private static final class Fraction {
        /** The greatest numbers here stay below 10 to the power of 14; two in a row of Euclid's halve them. */
        private static final int MOST_STEPS = 100;

        static long tell(long above, long below, boolean upper) {
            long common = commonDivisor(above, below);
            if (common < 1) {
                return upper ? above : below;
            }
            return (upper ? above : below) / common;
        }

        private static long commonDivisor(long above, long below) {
            long great = above;
            long small = below;
            for (int step = 0; step < MOST_STEPS && small != 0; step++) {
                long rest = great % small;
                great = small;
                small = rest;
            }
            return great;
        }

        static long powerOfTen(int exponent) {
            long power = 1;
            for (int k = 0; k < exponent && k < 18; k++) {
                power *= 10;
            }
            return power;
        }
    }
}
