import java.util.Random;

/** Asks the class and its plain twin the same, by many calls that a fixed seed draws. */
public final class TwinTest {
    private static final Due DUE = new Due("TwinTest");
    private static final int[] WILD = {Integer.MIN_VALUE, Integer.MAX_VALUE, Integer.MIN_VALUE + 1, 1 << 30, -1, -2, 1000, 65536};

    private final Random random;
    private final BoatsOfPaper x = new BoatsOfPaper();
    private final PlainTwin y = new PlainTwin();
    private final String run;

    private TwinTest(int seed) {
        random = new Random(seed);
        run = "seed " + seed + ": ";
    }

    public static void main(String[] args) {
        for (int seed = 0; seed < 400; seed++) {
            TwinTest one = new TwinTest(seed);
            one.begin();
            for (int k = 0; k < 120; k++) {
                one.ask(one.random.nextInt(40), k);
            }
            one.askAll();
        }
        DUE.end();
    }

    /** A number of a range, at times just beside it, seldom a wild one. */
    private int of(int least, int most) {
        int luck = random.nextInt(60);
        if (luck == 0) {
            return WILD[random.nextInt(WILD.length)];
        }
        if (luck == 1) {
            return least - 1;
        }
        if (luck == 2) {
            return most + 1;
        }
        return inside(least, most);
    }

    private int inside(int least, int most) {
        return least + random.nextInt(Math.max(1, most - least + 1));
    }

    private void write(String signs) {
        for (int k = 0; k < signs.length(); k += 8) {
            int n = Math.min(8, signs.length() - k);
            long v = random.nextLong();
            for (int at = k; at < k + n; at++) {
                v = v << 8 | signs.charAt(at);
            }
            DUE.is(run + "write", x.write(n, v), y.write(n, v));
        }
    }

    private String signs() {
        String kinds = switch (random.nextInt(4)) {
            case 0 -> "11112223456789LLDD";
            case 1 -> "112LDW";
            case 2 -> "1LD";
            default -> "112233LLLDDDW";
        };
        // PlainTwin tries every way of blowing: two lanes or few places at a time
        int lanes = inside(1, 3);
        int places = inside(1, lanes == 3 ? 7 : 12);
        StringBuilder signs = new StringBuilder();
        for (int lane = 0; lane < lanes; lane++) {
            for (int place = 0; place < places; place++) {
                signs.append(kinds.charAt(random.nextInt(kinds.length())));
            }
            signs.append(lane < lanes - 1 ? "/" : "");
        }
        if (random.nextInt(6) == 0) {
            String odd = "/0X1W" + (char) 200;
            signs.setCharAt(random.nextInt(signs.length()), odd.charAt(random.nextInt(odd.length())));
        }
        if (random.nextInt(6) == 0) {
            signs.setLength(random.nextInt(signs.length() + 1));
        }
        return signs.toString();
    }

    private void dig() {
        DUE.is(run + "wipe", x.wipe(), y.wipe());
        write(signs());
        DUE.is(run + "fault", x.fault(), y.fault());
        DUE.is(run + "gutter", x.gutter(), y.gutter());
    }

    private void launch() {
        int l = of(3, 20);
        int w = of(3, 20);
        int t = of(1, 9);
        int h = of(1, Math.max(1, Math.min(9, (Math.min(l, w) - 1) / 2)));
        DUE.is(run + "boat " + l + " " + w + " " + t + " " + h, x.boat(l, w, t, h), y.boat(l, w, t, h));
    }

    private void layCoins() {
        int boat = of(0, Math.max(0, y.count(1) - 1));
        for (int k = inside(1, 5); k > 0; k--) {
            int i = of(0, Math.max(0, y.about(boat, 4) - 1));
            int j = of(0, Math.max(0, y.about(boat, 5) - 1));
            int weight = random.nextBoolean() ? of(1, 99) : of(80, 99);
            DUE.is(run + "coin " + boat + " " + i + " " + j + " " + weight, x.coin(boat, i, j, weight), y.coin(boat, i, j, weight));
        }
    }

    private void begin() {
        dig();
        for (int k = inside(0, 3); k > 0; k--) {
            launch();
        }
        for (int k = inside(0, 6); k > 0; k--) {
            ask(32, 0);
        }
    }

    private void ask(int what, int k) {
        int boat = of(0, Math.max(0, y.count(1) - 1));
        String at = run + "call " + k + ": ";
        if (what < 8) {
            change(what, boat, at);
        } else if (what < 22) {
            askBoat(what, boat, at);
        } else if (what < 30) {
            askGutter(what, boat, of(0, Math.max(0, lanes() - 1)), of(0, Math.max(0, places() - 1)), at);
        } else {
            askMany(what, at);
        }
    }

    private int lanes() {
        int lanes = 0;
        while (y.place(lanes, 0) > 0) {
            lanes++;
        }
        return lanes;
    }

    private int places() {
        int places = 0;
        while (y.place(0, places) > 0) {
            places++;
        }
        return places;
    }

    private void change(int what, int boat, String at) {
        switch (what) {
            case 0 -> dig();
            case 1 -> launch();
            case 2 -> {
                int a = of(0, 9);
                int b = of(0, 9);
                DUE.is(at + "mishap " + a + " " + b, x.mishap(a, b), y.mishap(a, b));
            }
            case 3, 4 -> {
                int drinks = random.nextBoolean() ? of(0, 99) : of(0, 9);
                int wax = of(0, 9);
                DUE.is(at + "wax " + boat + " " + drinks + " " + wax, x.wax(boat, drinks, wax), y.wax(boat, drinks, wax));
            }
            case 5 -> layCoins();
            case 6 -> {
                if (random.nextInt(3) == 0) {
                    DUE.is(at + "empty " + boat, x.empty(boat), y.empty(boat));
                }
            }
            default -> {
                int n = of(1, 8);
                long v = random.nextLong();
                DUE.is(at + "write " + n + " " + v, x.write(n, v), y.write(n, v));
                DUE.is(at + "fault", x.fault(), y.fault());
                DUE.is(at + "gutter", x.gutter(), y.gutter());
            }
        }
    }

    private void askBoat(int what, int boat, String at) {
        boolean upper = random.nextBoolean();
        int s = random.nextBoolean() ? of(0, 999) : of(0, 60);
        int weight = of(1, 99);
        int h = of(1, 9);
        int k = of(0, 10);
        String of = " " + boat + " ";
        switch (what) {
            case 8, 9 -> DUE.is(at + "about" + of + k, x.about(boat, k), y.about(boat, k));
            case 10 -> DUE.is(at + "deep" + of + s, x.deep(boat, s, upper), y.deep(boat, s, upper));
            case 11, 12 -> DUE.is(at + "corner" + of + s, x.corner(boat, s, upper), y.corner(boat, s, upper));
            case 13 -> DUE.is(at + "under" + of + s, x.under(boat, s), y.under(boat, s));
            case 14 -> DUE.is(at + "life" + of, x.life(boat), y.life(boat));
            case 15 -> DUE.is(at + "bears" + of + h + " " + weight, x.bears(boat, h, weight), y.bears(boat, h, weight));
            case 16 -> DUE.is(at + "rim" + of + weight, x.rim(boat, weight), y.rim(boat, weight));
            case 17 -> {
                if (y.about(boat, 8) < 7) {
                    DUE.is(at + "orders" + of, x.orders(boat), y.orders(boat));
                }
            }
            case 18, 19 -> {
                if (y.about(boat, 8) < 7) {
                    DUE.is(at + "order" + of + k, x.order(boat, k), y.order(boat, k));
                }
            }
            default -> {
                int seconds = of(0, 99);
                DUE.is(at + "needs" + of + seconds, x.needs(boat, seconds), y.needs(boat, seconds));
            }
        }
    }

    private void askGutter(int what, int boat, int lane, int place, String at) {
        boolean upper = random.nextBoolean();
        String of = " " + boat + " " + lane + " " + place;
        switch (what) {
            case 22 -> DUE.is(at + "time" + of, x.time(boat, lane), y.time(boat, lane));
            case 23 -> DUE.is(at + "far" + of, x.far(boat, lane, upper), y.far(boat, lane, upper));
            case 24 -> DUE.is(at + "ended" + of, x.ended(boat, lane, place, upper), y.ended(boat, lane, place, upper));
            case 25 -> DUE.is(at + "home" + of, x.home(boat, lane, upper), y.home(boat, lane, upper));
            case 26 -> DUE.is(at + "first" + of, x.first(boat, lane), y.first(boat, lane));
            case 27 -> DUE.is(at + "best" + of, x.best(boat), y.best(boat));
            case 28 -> DUE.is(at + "whose" + of, x.whose(lane, place, boat, upper), y.whose(lane, place, boat, upper));
            default -> DUE.is(at + "likeliest" + of, x.likeliest(lane, place), y.likeliest(lane, place));
        }
    }

    private void askMany(int what, String at) {
        boolean upper = random.nextBoolean();
        int n = of(1, 9);
        int c = of(0, 9);
        int slot = of(0, 1);
        switch (what) {
            case 30 -> DUE.is(at + "rests " + n + " " + c, x.rests(n, c), y.rests(n, c));
            case 31 -> DUE.is(at + "split " + n + " " + c, x.split(n, c), y.split(n, c));
            case 32, 33 -> {
                int far = random.nextBoolean() ? of(0, 99) : of(0, 9);
                DUE.is(at + "run " + far, x.run(far, upper), y.run(far, upper));
            }
            case 34 -> {
                if (random.nextInt(6) == 0) {
                    DUE.is(at + "unrun", x.unrun(), y.unrun());
                }
            }
            case 35, 36 -> DUE.is(at + "red", x.red(upper), y.red(upper));
            case 37 -> DUE.is(at + "keep " + slot, x.keep(slot), y.keep(slot));
            case 38 -> {
                if (random.nextInt(3) == 0) {
                    DUE.is(at + "again " + slot, x.again(slot), y.again(slot));
                }
            }
            default -> DUE.is(at + "count " + n, x.count(n - 3), y.count(n - 3));
        }
    }

    /** At the end all that stands in the gutter and with each boat is asked. */
    private void askAll() {
        for (int boat = 0; boat < y.count(1); boat++) {
            DUE.is(run + "at last life " + boat, x.life(boat), y.life(boat));
            DUE.is(run + "at last best " + boat, x.best(boat), y.best(boat));
            for (int lane = 0; lane < lanes(); lane++) {
                DUE.is(run + "at last first " + boat + " " + lane, x.first(boat, lane), y.first(boat, lane));
                DUE.is(run + "at last home " + boat + " " + lane, x.home(boat, lane, true), y.home(boat, lane, true));
                DUE.is(run + "at last far " + boat + " " + lane, x.far(boat, lane, true), y.far(boat, lane, true));
                for (int place = 0; place < places(); place++) {
                    DUE.is(run + "at last whose " + lane + " " + place + " " + boat, x.whose(lane, place, boat, true),
                        y.whose(lane, place, boat, true));
                }
            }
        }
    }
}
