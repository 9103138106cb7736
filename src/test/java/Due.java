/** Counts the answers of one test that are not as due, and helps to write texts. */
final class Due {
    private final String test;
    private int asked = 0;
    private int wrong = 0;

    Due(String test) {
        this.test = test;
    }

    void is(String call, long got, long want) {
        asked++;
        if (got != want) {
            wrong++;
            System.out.println(test + ": " + call + " answered " + got + ", due is " + want);
        }
    }

    /** A fraction, by a call for what is above and one for what is below. */
    void isFraction(String call, long above, long below, long wantAbove, long wantBelow) {
        is(call + " above", above, wantAbove);
        is(call + " below", below, wantBelow);
    }

    void end() {
        if (asked == 0) {
            wrong++;
        }
        System.out.println(test + ": " + (asked - wrong) + " of " + asked + " answers are as due");
        if (wrong > 0) {
            System.exit(1);
        }
    }

    /** Writes the signs behind THE TEXT, as many bytes a call as go into one; the last call's answer. */
    static int put(BoatsOfPaper x, String signs) {
        int answer = 0;
        for (int k = 0; k < signs.length(); k += 8) {
            int n = Math.min(8, signs.length() - k);
            long v = 0;
            for (int at = k; at < k + n; at++) {
                v = v << 8 | signs.charAt(at);
            }
            answer = x.write(n, v);
        }
        return answer;
    }

    /** Makes the signs THE GUTTER. */
    static int dig(BoatsOfPaper x, String signs) {
        x.wipe();
        put(x, signs);
        return x.gutter();
    }

    static int faultOf(String signs) {
        BoatsOfPaper x = new BoatsOfPaper();
        put(x, signs);
        return x.fault();
    }
}
