import java.util.function.Supplier;
import java.util.function.ToLongFunction;

/** Counts the answers of one test that are not as due, and helps to write texts. */
final class Due {
    /** The least and the greatest int, and numbers that wrap around to small ones when doubled or lessened. */
    static final int[] WILD = {Integer.MIN_VALUE, Integer.MIN_VALUE + 1, -(1 << 30), 1 << 30, 3 << 29,
        Integer.MAX_VALUE - 1, Integer.MAX_VALUE};

    private final String test;
    private int asked = 0;
    private int wrong = 0;

    Due(String test) {
        this.test = test;
    }

    void is(String call, long got, long want) {
        asked++;
        if (got != want) {
            wrong++;
            System.out.println(test + ": " + call + " answered " + got + ", due is " + want);
        }
    }

    /** A fraction, by a call for what is above and one for what is below. */
    void isFraction(String call, long above, long below, long wantAbove, long wantBelow) {
        is(call + " above", above, wantAbove);
        is(call + " below", below, wantBelow);
    }

    /** A call that answers as due and leaves all as it is on an object like it that was never asked. */
    void still(String call, Supplier<BoatsOfPaper> ready, ToLongFunction<BoatsOfPaper> ask, long want) {
        BoatsOfPaper asked = ready.get();
        is(call, ask.applyAsLong(asked), want);
        is(call + " leaves all as it is", Seen.of(asked).equals(Seen.of(ready.get())) ? 1 : 0, 1);
    }

    void end() {
        if (asked == 0) {
            wrong++;
        }
        System.out.println(test + ": " + (asked - wrong) + " of " + asked + " answers are as due");
        if (wrong > 0) {
            System.exit(1);
        }
    }

    /** Writes the signs behind THE TEXT, as many bytes a call as go into one; the last call's answer. */
    static int put(BoatsOfPaper x, String signs) {
        int answer = 0;
        for (int k = 0; k < signs.length(); k += 8) {
            int n = Math.min(8, signs.length() - k);
            long v = 0;
            for (int at = k; at < k + n; at++) {
                v = v << 8 | signs.charAt(at);
            }
            answer = x.write(n, v);
        }
        return answer;
    }

    /** Makes the signs THE GUTTER. */
    static int dig(BoatsOfPaper x, String signs) {
        x.wipe();
        put(x, signs);
        return x.gutter();
    }

    /** A BOAT that lives just so many seconds, 0 to 135; with -1 it is UNDER at once. By nine calls at most. */
    static int lives(BoatsOfPaper x, int seconds) {
        // 675 are left to its rim at second 0: COINS in its midst take all but one for each second
        int boat = x.boat(5, 5, 9, 1);
        x.wax(boat, 1, 9);
        for (int left = 675 - seconds; left > 0; left -= 99) {
            x.coin(boat, 1, 1, Math.min(99, left));
        }
        return boat;
    }

    static int faultOf(String signs) {
        BoatsOfPaper x = new BoatsOfPaper();
        put(x, signs);
        return x.fault();
    }
}
