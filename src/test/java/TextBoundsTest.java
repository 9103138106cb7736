/** The bounds that the first part of Terms and promises 1 to 7 name, each sentence by a test of its own. */
public final class TextBoundsTest {
    private static final Due DUE = new Due("TextBoundsTest");
    private static final int LEAST = Integer.MIN_VALUE;
    private static final int MOST = Integer.MAX_VALUE;

    public static void main(String[] args) {
        newObject();
        nothingThereYet();
        bytesOfOneWrite();
        whichBytesCome();
        howLongItIs();
        writeOutside();
        writeFull();
        wiped();
        lanesOfAText();
        signsOfTheFirstLane();
        signsOfOtherLanes();
        signsThatAreKnown();
        faultWhateverComes();
        faultBeyondTheLongest();
        onlyNotAtItsEnd();
        faultNone();
        gutterTold();
        gutterLeavesAllElse();
        gutterOfAFault();
        placesOfALane();
        placeKinds();
        placeUnknown();
        secondsToCross();
        tenthsAtFirst();
        tenthsThatMishap();
        mishapWere();
        mishapOutside();
        DUE.end();
    }

    /** Promise 1: "A GUTTER of one PLACE, no BOATS." Terms: "At first THE GUTTER is 1." */
    private static void newObject() {
        BoatsOfPaper x = new BoatsOfPaper();
        DUE.is("place(0, 0)", x.place(0, 0), 1);
        for (int[] at : new int[][] {{0, 1}, {0, -1}, {1, 0}, {-1, 0}, {1, 1}, {0, MOST}, {LEAST, 0}}) {
            DUE.is("place(" + at[0] + ", " + at[1] + ")", x.place(at[0], at[1]), -1);
        }
        DUE.is("count(1)", x.count(1), 0);
        for (int boat : new int[] {-1, 0, 1, 5, 6}) {
            DUE.is("about(" + boat + ", 0)", x.about(boat, 0), -1);
        }
        Due.lives(x, 1);
        DUE.is("time(0, 0): one second", x.time(0, 0), 1);
        DUE.is("time(0, 1)", x.time(0, 1), -1);
    }

    /** Promise 1: "no BOATS": nor COINS, RUNS, bytes, or what was kept. */
    private static void nothingThereYet() {
        for (int what = 0; what < 5; what++) {
            DUE.is("count(" + what + ")", new BoatsOfPaper().count(what), 0);
        }
        DUE.is("wipe()", new BoatsOfPaper().wipe(), 0);
        DUE.is("fault()", new BoatsOfPaper().fault(), 0);
        DUE.is("gutter()", new BoatsOfPaper().gutter(), -3);
        DUE.is("mishap(0, 0)", new BoatsOfPaper().mishap(0, 0), 32);
        DUE.is("empty(0)", new BoatsOfPaper().empty(0), -1);
        DUE.is("likeliest(0, 0)", new BoatsOfPaper().likeliest(0, 0), -3);
        DUE.is("rests(1, 0)", new BoatsOfPaper().rests(1, 0), 1);
        DUE.is("split(1, 0)", new BoatsOfPaper().split(1, 0), 100);
        DUE.is("unrun()", new BoatsOfPaper().unrun(), 0);
        DUE.is("red(true)", new BoatsOfPaper().red(true), 1);
        DUE.is("red(false)", new BoatsOfPaper().red(false), 1);
        DUE.is("again(0)", new BoatsOfPaper().again(0), -3);
        DUE.is("again(1)", new BoatsOfPaper().again(1), -3);
        DUE.is("keep(0)", new BoatsOfPaper().keep(0), 0);
    }

    /** Promise 2: "n bytes (1 to 8) of v," */
    private static void bytesOfOneWrite() {
        for (int n = 1; n <= 8; n++) {
            BoatsOfPaper x = new BoatsOfPaper();
            DUE.is("write(" + n + ", ..)", x.write(n, 0x3131313131313131L), n);
            DUE.is("gutter() of " + n, x.gutter(), 100 + n);
        }
        DUE.is("write(0, ..)", new BoatsOfPaper().write(0, 0x31), -2);
        DUE.is("write(9, ..)", new BoatsOfPaper().write(9, 0x31), -2);
    }

    /** Promise 2: "the lowest n, the highest of these first," also of the least and the greatest long. */
    private static void whichBytesCome() {
        for (int n = 1; n <= 8; n++) {
            BoatsOfPaper x = new BoatsOfPaper();
            x.write(n, 0x3837363534333231L);
            DUE.is("gutter() of " + n, x.gutter(), 100 + n);
            for (int place = 0; place < n; place++) {
                DUE.is("place(0, " + place + ") of " + n, x.place(0, place), n - place);
            }
        }
        // the bytes above the lowest n would be a FAULT
        for (int n = 1; n < 8; n++) {
            BoatsOfPaper x = new BoatsOfPaper();
            x.write(n, 0x3131313131313131L & -1L >>> 8 * (8 - n) | -1L << 8 * n);
            DUE.is("fault() of " + n, x.fault(), -9);
        }
        // 80 00 .. and 7F FF ..: their lowest bytes, of which none is a sign
        for (long v : new long[] {Long.MIN_VALUE, Long.MAX_VALUE, 0, -1}) {
            for (int n = 1; n <= 8; n++) {
                BoatsOfPaper x = new BoatsOfPaper();
                x.write(1, 'L');
                DUE.is("write(" + n + ", " + v + ")", x.write(n, v), 1 + n);
                DUE.is("fault() behind " + v, x.fault(), 1);
            }
        }
        // the highest byte of a long without and with its sign: 31 and B1
        BoatsOfPaper eight = new BoatsOfPaper();
        eight.write(8, 0x3131313131313131L);
        DUE.is("a highest byte of 0x31", eight.fault(), -9);
        BoatsOfPaper minus = new BoatsOfPaper();
        minus.write(8, 0xB131313131313131L);
        DUE.is("a highest byte of 0xB1", minus.fault(), 0);
    }

    /** Promise 2: "come behind THE TEXT: how long it is." */
    private static void howLongItIs() {
        BoatsOfPaper x = new BoatsOfPaper();
        DUE.is("the first byte", x.write(1, '1'), 1);
        DUE.is("the second", x.write(1, 'L'), 2);
        DUE.is("eight more", x.write(8, 0x4444444444444444L), 10);
        DUE.is("gutter()", x.gutter(), 110);
        DUE.is("place(0, 0)", x.place(0, 0), 1);
        DUE.is("place(0, 1)", x.place(0, 1), 10);
        DUE.is("place(0, 2)", x.place(0, 2), 11);
        DUE.is("place(0, 9)", x.place(0, 9), 11);
        DUE.is("count(0)", x.count(0), 10);
    }

    /** Promise 2: "OUTSIDE;" and Terms: "What is refused changes nothing." */
    private static void writeOutside() {
        for (int n : new int[] {0, -1, 9, 256, LEAST, LEAST + 1, MOST}) {
            DUE.still("write(" + n + ", 49)", BoatsOfPaper::new, x -> x.write(n, 49), -2);
            DUE.still("write(" + n + ", 49)", Seen::half, x -> x.write(n, 49), -2);
            DUE.still("write(" + n + ", 49) ahead of FULL", Seen::full, x -> x.write(n, 49), -2);
        }
        DUE.still("write(0, least)", Seen::half, x -> x.write(0, Long.MIN_VALUE), -2);
        DUE.still("write(9, most)", Seen::half, x -> x.write(9, Long.MAX_VALUE), -2);
    }

    /** Promise 2: "FULL: it would be longer than 40 (nothing comes)." Terms: "THE TEXT is bytes (40 at most)." */
    private static void writeFull() {
        for (int n = 1; n <= 8; n++) {
            // so many that n more are 39, 40 and 41
            int size = n;
            DUE.is("39 by " + n, longText(39 - n).write(n, 0), 39);
            DUE.is("40 by " + n, longText(40 - n).write(n, 0), 40);
            DUE.still("41 by " + n, () -> longText(41 - size), x -> x.write(size, 0x31313131), -4);
            DUE.still("more than 40 by " + n, () -> longText(40), x -> x.write(size, -1), -4);
        }
        BoatsOfPaper x = longText(33);
        DUE.is("8 do not go in", x.write(8, 0), -4);
        DUE.is("7 do, and fill it", x.write(7, 0), 40);
        DUE.is("count(0)", x.count(0), 40);
        DUE.is("wipe()", x.wipe(), 40);
        DUE.is("8 go in again", x.write(8, 0), 8);
    }

    private static BoatsOfPaper longText(int length) {
        BoatsOfPaper x = new BoatsOfPaper();
        for (int k = 0; k < length; k++) {
            x.write(1, '2');
        }
        return x;
    }

    /** Promise 3: "THE TEXT is empty: how long it was." */
    private static void wiped() {
        for (int length : new int[] {0, 1, 39, 40}) {
            BoatsOfPaper x = longText(length);
            DUE.is("wipe() of " + length, x.wipe(), length);
            DUE.is("count(0) behind it", x.count(0), 0);
            DUE.is("fault() behind it", x.fault(), 0);
            DUE.is("gutter() behind it", x.gutter(), -3);
            DUE.is("wipe() once more", x.wipe(), 0);
            DUE.is("write(1, ..) behind it", x.write(1, '3'), 1);
            DUE.is("gutter() of that", x.gutter(), 101);
        }
        BoatsOfPaper x = Seen.half();
        DUE.is("wipe()", x.wipe(), 14);
        DUE.is("THE GUTTER stays", x.place(1, 3), 1);
        DUE.is("BOATS stay", x.count(1), 2);
    }

    /** Terms: "A GUTTER is a TEXT of 1 to 3 LANES with a / between them, each" */
    private static void lanesOfAText() {
        for (String lane : new String[] {"1", "LD", "123456789LDW"}) {
            int wide = lane.length();
            DUE.is("no lane", Due.faultOf(""), 0);
            DUE.is("one of " + wide, Due.faultOf(lane), -9);
            DUE.is("two of " + wide, Due.faultOf(lane + "/" + lane), -9);
            DUE.is("three of " + wide, Due.faultOf(lane + "/" + lane + "/" + lane), -9);
            DUE.is("a fourth of " + wide, Due.faultOf(lane + "/" + lane + "/" + lane + "/1"), 3 * wide + 2);
            DUE.is("a / behind the third of " + wide, Due.faultOf(lane + "/" + lane + "/" + lane + "/"), 3 * wide + 2);
            DUE.is("two / between them", Due.faultOf(lane + "//" + lane), wide + 1);
            DUE.is("a / ahead", Due.faultOf("/" + lane), 0);
        }
    }

    /** Terms: "of as many signs as the first one (1 to 12):" of the first LANE itself. */
    private static void signsOfTheFirstLane() {
        DUE.is("no sign", Due.faultOf("/"), 0);
        for (int wide = 1; wide <= 12; wide++) {
            String lane = "L".repeat(wide);
            DUE.is(wide + " signs", Due.faultOf(lane), -9);
            DUE.is(wide + " signs and a /", Due.faultOf(lane + "/"), wide + 1);
            DUE.is(wide + " signs are so many PLACES", Due.dig(new BoatsOfPaper(), lane), 100 + wide);
        }
        for (int wide = 13; wide <= 40; wide++) {
            DUE.is(wide + " signs", Due.faultOf("1".repeat(wide)), 12);
        }
        DUE.is("12 signs and another /", Due.faultOf("1".repeat(12) + "//"), 13);
        DUE.is("13 signs and a /", Due.faultOf("1".repeat(13) + "/"), 12);
    }

    /** Terms: "of as many signs as the first one (1 to 12):" of the second and the third. */
    private static void signsOfOtherLanes() {
        for (int wide = 1; wide <= 12; wide++) {
            String lane = "D".repeat(wide);
            String start = lane + "/";
            for (int lanes = 2; lanes <= 3; lanes++) {
                String what = "lane " + (lanes - 1) + " of " + wide;
                int from = start.length();
                DUE.is(what + ": none yet", Due.faultOf(start), from);
                DUE.is(what + ": one less", Due.faultOf(start + lane.substring(1)), from + wide - 1);
                DUE.is(what + ": as many", Due.faultOf(start + lane), -9);
                DUE.is(what + ": one more", Due.faultOf(start + lane + "D"), from + wide);
                DUE.is(what + ": one less, and a /", Due.faultOf(start + lane.substring(1) + "/"), from + wide - 1);
                start += lane + "/";
            }
        }
    }

    /** Terms: "1 to 9 open", Terms: "L a leaf", Terms: "D a drain", Terms: "W a wall." Each of the 256 bytes. */
    private static void signsThatAreKnown() {
        for (int sign = 0; sign < 256; sign++) {
            boolean known = sign >= '1' && sign <= '9' || sign == 'L' || sign == 'D' || sign == 'W';
            String one = "" + (char) sign;
            DUE.is("byte " + sign + " at place 0", Due.faultOf(one), known ? -9 : 0);
            DUE.is("byte " + sign + " at place 1", Due.faultOf("1" + one), known ? -9 : sign == '/' ? 2 : 1);
            DUE.is("byte " + sign + " in the second lane", Due.faultOf("11/1" + one), known ? -9 : 4);
            DUE.is("byte " + sign + " at the last place", Due.faultOf("1".repeat(12) + "/" + "2".repeat(12) + "/" + "3".repeat(11) + one),
                known ? -9 : 37);
        }
    }

    /** Terms: "FAULT: the place (from 0 on) of the first byte by which THE TEXT can be no GUTTER, whatever came behind it" */
    private static void faultWhateverComes() {
        String good = "12/LD/WW";
        for (int place = 0; place < good.length(); place++) {
            String start = good.substring(0, place) + "0";
            DUE.is("fault() of " + start, Due.faultOf(start), place);
            for (String behind : new String[] {"0", "1", "/", good, "/".repeat(30)}) {
                DUE.is("fault() of " + start + behind, Due.faultOf(start + behind), place);
            }
        }
        // the byte that is one too many is told, not the / that is too late
        DUE.is("a short lane, and a bad sign", Due.faultOf("123/12/0"), 6);
        DUE.is("a long lane, and a bad sign", Due.faultOf("12/1230"), 5);
        DUE.is("a / that is too early", Due.faultOf("11/1/11"), 4);
    }

    /** Terms: "(its length set aside);" the longest GUTTER is 38 bytes, THE TEXT may be 40. */
    private static void faultBeyondTheLongest() {
        String longest = "1".repeat(12) + "/" + "2".repeat(12) + "/" + "3".repeat(12);
        DUE.is("37 bytes", Due.faultOf(longest.substring(0, 37)), 37);
        DUE.is("38 bytes", Due.faultOf(longest), -9);
        DUE.is("gutter() of 38 bytes", Due.dig(new BoatsOfPaper(), longest), 312);
        for (String more : new String[] {"1", "/", "11", "//", "/1", "1/", "00"}) {
            DUE.is("38 and " + more, Due.faultOf(longest + more), 38);
            DUE.is("38 and " + more, Due.dig(new BoatsOfPaper(), longest + more), -3);
        }
    }

    /** Terms: "its length, if it is only not at its end;" */
    private static void onlyNotAtItsEnd() {
        String whole = "123456789LDW/LLLLLLLLLLLL/WWWWWWWWWWWW";
        for (int length = 0; length <= whole.length(); length++) {
            boolean atEnd = length >= 1 && length <= 12 || length == 25 || length == 38;
            DUE.is("fault() of the first " + length, Due.faultOf(whole.substring(0, length)), atEnd ? -9 : length);
        }
    }

    /** Terms: "NONE: none." Promise 4: "FAULT; NONE." Asking for it leaves all as it is. */
    private static void faultNone() {
        DUE.is("of one sign", Due.faultOf("9"), -9);
        DUE.is("of two lanes", Due.faultOf("W/W"), -9);
        DUE.still("of none yet", BoatsOfPaper::new, BoatsOfPaper::fault, 0);
        DUE.still("of three lanes", Seen::half, BoatsOfPaper::fault, -9);
        DUE.still("of 40 bytes", Seen::full, BoatsOfPaper::fault, 38);
    }

    /** Promise 5: "THE TEXT", Promise 5: "is THE GUTTER: 100 times how many LANES, and how many PLACES each." */
    private static void gutterTold() {
        for (int lanes = 1; lanes <= 3; lanes++) {
            for (int wide = 1; wide <= 12; wide++) {
                String signs = ("/" + "5".repeat(wide)).repeat(lanes).substring(1);
                BoatsOfPaper x = new BoatsOfPaper();
                DUE.is("gutter() of " + signs, Due.dig(x, signs), 100 * lanes + wide);
                DUE.is("its last place", x.place(lanes - 1, wide - 1), 5);
                DUE.is("no place behind it", x.place(lanes - 1, wide), -1);
                DUE.is("no lane behind it", x.place(lanes, 0), -1);
            }
        }
        // from the most to the least, and back
        BoatsOfPaper x = Seen.full();
        DUE.is("the least", Due.dig(x, "W"), 101);
        DUE.is("place(0, 1)", x.place(0, 1), -1);
        DUE.is("place(1, 0)", x.place(1, 0), -1);
        DUE.is("the most", Due.dig(x, "1".repeat(12) + "/" + "L".repeat(12) + "/" + "D".repeat(12)), 312);
        DUE.is("place(2, 11)", x.place(2, 11), 11);
    }

    /** Promise 5: "(that stays as it is, as all else does)" */
    private static void gutterLeavesAllElse() {
        BoatsOfPaper x = Seen.half();
        DUE.is("gutter()", x.gutter(), 304);
        DUE.is("THE TEXT stays", x.count(0), 14);
        DUE.is("THE TEXT stays", x.fault(), -9);
        DUE.is("BOATS stay", x.count(1), 2);
        DUE.is("COINS stay", x.count(2), 3);
        DUE.is("RUNS stay", x.count(3), 4);
        DUE.is("red ones stay", x.count(4), 2);
        DUE.is("gutter() once more", x.gutter(), 304);
        DUE.is("mishaps stay", x.mishap(0, 0), 46);
        DUE.is("SLOTS stay", x.again(1), -3);
        DUE.is("SLOTS stay", x.again(0), 1);
        DUE.is("write goes on behind it", x.write(1, '1'), 15);
        // bytes that come later change THE TEXT, not THE GUTTER
        DUE.is("place(2, 3)", x.place(2, 3), 9);
        x.wipe();
        DUE.is("place(2, 3)", x.place(2, 3), 9);
    }

    /** Promise 5: "STATE: a FAULT." */
    private static void gutterOfAFault() {
        for (String signs : new String[] {"", "0", "/", "1/", "12/3", "12/345", "1/1/1/", "1111111111111", "1\n"}) {
            DUE.still("gutter() of " + signs, () -> {
                BoatsOfPaper x = Seen.half();
                x.wipe();
                Due.put(x, signs);
                return x;
            }, BoatsOfPaper::gutter, -3);
        }
        DUE.still("gutter() of none yet", BoatsOfPaper::new, BoatsOfPaper::gutter, -3);
        DUE.still("gutter() of 40 bytes", Seen::full, BoatsOfPaper::gutter, -3);
    }

    /** Terms: "PLACES of a LANE are 0, 1, .., the first one upstream." */
    private static void placesOfALane() {
        BoatsOfPaper x = new BoatsOfPaper();
        Due.dig(x, "12L/34D");
        int[] due = {-1, 1, 2, 10, -1};
        for (int place = -1; place <= 3; place++) {
            DUE.is("place(0, " + place + ")", x.place(0, place), due[place + 1]);
        }
        // the first one is crossed first: one that lives 1 second gets across PLACE 0 alone, if it takes 1
        int boat = Due.lives(x, 1);
        DUE.isFraction("far in 1 2 L", x.far(boat, 0, true), x.far(boat, 0, false), 1, 1);
        DUE.isFraction("far in 3 4 D", x.far(boat, 1, true), x.far(boat, 1, false), 0, 1);
    }

    /** Promise 6: "A PLACE: 1 to 9 open, 10 a leaf, 11 a drain, 12 a wall." */
    private static void placeKinds() {
        String signs = "123456789LDW";
        for (int k = 0; k < signs.length(); k++) {
            BoatsOfPaper x = new BoatsOfPaper();
            Due.dig(x, signs.substring(k, k + 1));
            DUE.is("place(0, 0) of " + signs.charAt(k), x.place(0, 0), k + 1);
            Due.dig(x, "11/11/1" + signs.charAt(k));
            DUE.is("place(2, 1) of " + signs.charAt(k), x.place(2, 1), k + 1);
        }
    }

    /** Promise 6: "UNKNOWN." */
    private static void placeUnknown() {
        int[][] sizes = {{1, 1}, {1, 12}, {2, 5}, {3, 1}, {3, 12}};
        for (int[] size : sizes) {
            int lanes = size[0];
            int places = size[1];
            BoatsOfPaper x = new BoatsOfPaper();
            Due.dig(x, ("/" + "7".repeat(places)).repeat(lanes).substring(1));
            for (int lane = -1; lane <= 4; lane++) {
                for (int place = -1; place <= 13; place++) {
                    boolean there = lane >= 0 && lane < lanes && place >= 0 && place < places;
                    DUE.is("place(" + lane + ", " + place + ")", x.place(lane, place), there ? 7 : -1);
                }
            }
            for (int wild : Due.WILD) {
                DUE.is("place(" + wild + ", 0)", x.place(wild, 0), -1);
                DUE.is("place(0, " + wild + ")", x.place(0, wild), -1);
                DUE.is("place(" + wild + ", " + wild + ")", x.place(wild, wild), -1);
            }
        }
        DUE.still("place(0, 4)", Seen::half, x -> x.place(0, 4), -1);
        DUE.still("place(2, 0): of THE TEXT, not of THE GUTTER", Seen::half, x -> x.place(2, 0), -1);
    }

    /** Terms: "so many seconds to cross;" Terms: "two seconds;" Terms: "one second;" */
    private static void secondsToCross() {
        String signs = "123456789LD";
        int[] seconds = {1, 2, 3, 4, 5, 6, 7, 8, 9, 2, 1};
        for (int k = 0; k < seconds.length; k++) {
            BoatsOfPaper x = new BoatsOfPaper();
            x.mishap(0, 0);
            Due.dig(x, signs.substring(k, k + 1));
            for (int life = seconds[k] - 1; life <= seconds[k] + 1; life++) {
                int boat = Due.lives(x, life);
                String what = signs.charAt(k) + " in " + life + " seconds";
                boolean crosses = life >= seconds[k];
                DUE.is("time: " + what, x.time(boat, 0), crosses ? seconds[k] : -9);
                DUE.is("far: " + what, x.far(boat, 0, true), crosses ? 1 : 0);
                DUE.is("home: " + what, x.home(boat, 0, true), crosses ? 1 : 0);
            }
        }
    }

    /** Terms: "(0 to 9 each; 3 and 2 at first)," */
    private static void tenthsAtFirst() {
        BoatsOfPaper x = new BoatsOfPaper();
        int boat = Due.lives(x, 9);
        Due.dig(x, "L/D");
        DUE.isFraction("leaf", x.ended(boat, 0, 0, true), x.ended(boat, 0, 0, false), 3, 10);
        DUE.isFraction("drain", x.ended(boat, 1, 0, true), x.ended(boat, 1, 0, false), 1, 5);
        DUE.is("mishap(0, 0)", x.mishap(0, 0), 32);
    }

    /** Terms: "At a leaf a BOAT sticks for ever by x tenths, into a drain it falls by y tenths", Terms: "else it crosses it." */
    private static void tenthsThatMishap() {
        // 0 to 9 tenths in least terms
        int[] above = {0, 1, 1, 3, 2, 1, 3, 7, 4, 9};
        int[] below = {1, 10, 5, 10, 5, 2, 5, 10, 5, 10};
        BoatsOfPaper x = new BoatsOfPaper();
        int boat = Due.lives(x, 9);
        Due.dig(x, "L/D");
        for (int tenths = 0; tenths <= 9; tenths++) {
            x.mishap(tenths, 9 - tenths);
            DUE.isFraction("leaf by " + tenths, x.ended(boat, 0, 0, true), x.ended(boat, 0, 0, false), above[tenths], below[tenths]);
            DUE.isFraction("past the leaf by " + tenths, x.far(boat, 0, true), x.far(boat, 0, false),
                below[tenths] - above[tenths], below[tenths]);
            int other = 9 - tenths;
            DUE.isFraction("drain by " + other, x.ended(boat, 1, 0, true), x.ended(boat, 1, 0, false), above[other], below[other]);
            DUE.isFraction("past the drain by " + other, x.home(boat, 1, true), x.home(boat, 1, false),
                below[other] - above[other], below[other]);
        }
        // for ever: it ENDS at the first leaf, however long it lives
        Due.dig(x, "L1");
        x.mishap(9, 0);
        DUE.isFraction("behind the leaf", x.ended(boat, 0, 1, true), x.ended(boat, 0, 1, false), 0, 1);
    }

    /** Promise 7: "x, y of leaves and drains: 10 times x, and y that they were." */
    private static void mishapWere() {
        BoatsOfPaper x = new BoatsOfPaper();
        int was = 32;
        for (int a = 0; a <= 9; a++) {
            for (int b = 0; b <= 9; b++) {
                DUE.is("mishap(" + a + ", " + b + ")", x.mishap(a, b), was);
                was = 10 * a + b;
            }
        }
    }

    /** Promise 7: "OUTSIDE." */
    private static void mishapOutside() {
        for (int wrong : new int[] {-1, 10, 32, LEAST, MOST}) {
            DUE.still("mishap(" + wrong + ", 0)", Seen::half, x -> x.mishap(wrong, 0), -2);
            DUE.still("mishap(9, " + wrong + ")", Seen::half, x -> x.mishap(9, wrong), -2);
            DUE.still("mishap(" + wrong + ", " + wrong + ")", Seen::full, x -> x.mishap(wrong, wrong), -2);
        }
        DUE.still("mishap(-1, 42)", BoatsOfPaper::new, x -> x.mishap(-1, 42), -2);
    }
}
