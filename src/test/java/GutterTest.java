/** Promises 1 to 7: a new object, write, wipe, fault, gutter, place, mishap. */
public final class GutterTest {
    private static final Due DUE = new Due("GutterTest");

    public static void main(String[] args) {
        newObject();
        write();
        wipe();
        fault();
        gutter();
        place();
        mishap();
        DUE.end();
    }

    private static void newObject() {
        BoatsOfPaper x = new BoatsOfPaper();
        DUE.is("new: place(0, 0)", x.place(0, 0), 1);
        DUE.is("new: place(0, 1)", x.place(0, 1), -1);
        DUE.is("new: place(1, 0)", x.place(1, 0), -1);
        for (int what = 0; what < 5; what++) {
            DUE.is("new: count(" + what + ")", x.count(what), 0);
        }
        DUE.is("new: life(0)", x.life(0), -1);
        DUE.is("new: again(0)", x.again(0), -3);
        DUE.is("new: again(1)", x.again(1), -3);
        DUE.is("new: mishap(0, 0)", x.mishap(0, 0), 32);
        DUE.is("new: fault()", x.fault(), 0);
        BoatsOfPaper other = new BoatsOfPaper();
        x.write(1, 'L');
        x.gutter();
        x.boat(5, 5, 1, 1);
        x.run(5, true);
        DUE.is("another one's text", other.count(0), 0);
        DUE.is("another one's gutter", other.place(0, 0), 1);
        DUE.is("another one's boats", other.count(1), 0);
        DUE.is("another one's runs", other.count(3), 0);
    }

    private static void write() {
        BoatsOfPaper x = new BoatsOfPaper();
        DUE.is("write(0, 0)", x.write(0, 0), -2);
        DUE.is("write(-1, 0)", x.write(-1, 0), -2);
        DUE.is("write(9, 0)", x.write(9, 0), -2);
        DUE.is("write(least, 0)", x.write(Integer.MIN_VALUE, 0), -2);
        DUE.is("write(most, 0)", x.write(Integer.MAX_VALUE, 0), -2);
        DUE.is("nothing came", x.count(0), 0);
        // the lowest bytes come, the highest of these first
        DUE.is("write(2, ..)", x.write(2, 0x5757574C44L), 2);
        DUE.is("gutter()", x.gutter(), 102);
        DUE.is("place(0, 0)", x.place(0, 0), 10);
        DUE.is("place(0, 1)", x.place(0, 1), 11);
        DUE.is("write(8, -1)", x.write(8, -1L), 10);
        DUE.is("bytes of 255 are none", x.fault(), 2);
        for (int k = 2; k < 5; k++) {
            DUE.is("write(8, 0)", x.write(8, 0), 8 * k + 2 - 8 + 8);
        }
        DUE.is("write(7, 0): 41", x.write(7, 0), -4);
        DUE.is("write(9, 0) ahead of FULL", x.write(9, 0), -2);
        DUE.is("count(0)", x.count(0), 34);
        DUE.is("write(6, 0): 40", x.write(6, 0), 40);
        DUE.is("write(1, 0): 41", x.write(1, 0), -4);
        DUE.is("count(0)", x.count(0), 40);
        BoatsOfPaper y = new BoatsOfPaper();
        for (int k = 1; k <= 40; k++) {
            DUE.is("write(1, ..)", y.write(1, '1'), k);
        }
        DUE.is("write(1, ..): 41", y.write(1, '1'), -4);
        // negative v: its bytes alone count
        BoatsOfPaper z = new BoatsOfPaper();
        DUE.is("write(1, -207)", z.write(1, 0xFFFFFFFFFFFFFF31L), 1);
        DUE.is("fault()", z.fault(), -9);
        BoatsOfPaper high = new BoatsOfPaper();
        high.write(1, 0x131);
        DUE.is("higher bytes stay out", high.fault(), -9);
        BoatsOfPaper eighth = new BoatsOfPaper();
        eighth.write(8, 0xB131313131313131L);
        DUE.is("a byte beyond 127 is no sign", eighth.fault(), 0);
    }

    private static void wipe() {
        BoatsOfPaper x = new BoatsOfPaper();
        DUE.is("wipe()", x.wipe(), 0);
        Due.put(x, "1L/2D");
        DUE.is("gutter()", x.gutter(), 202);
        DUE.is("wipe()", x.wipe(), 5);
        DUE.is("wipe()", x.wipe(), 0);
        DUE.is("count(0)", x.count(0), 0);
        DUE.is("the gutter stays", x.place(1, 1), 11);
        DUE.is("write(1, ..)", x.write(1, '7'), 1);
        DUE.is("gutter()", x.gutter(), 101);
        DUE.is("place(0, 0)", x.place(0, 0), 7);
    }

    private static void fault() {
        String[] good = {"1", "9", "L", "D", "W", "123456789LDW", "1/2", "1/2/3", "W/W/W", "12/LD/WW",
            "123456789123/123456789123/123456789123", "LLLLLLLLLLLL/WWWWWWWWWWWW"};
        for (String signs : good) {
            DUE.is("fault() of " + signs, Due.faultOf(signs), -9);
        }
        String[] open = {"", "1/", "12/3", "1/2/", "12/34/", "12/34/5", "123456789123/",
            "123456789123/123456789123/12345678912"};
        for (String signs : open) {
            DUE.is("fault() of " + signs, Due.faultOf(signs), signs.length());
        }
        Object[][] bad = {{"0", 0}, {"/", 0}, {"/1", 0}, {"10", 1}, {"1l", 1}, {"l1", 0}, {"X", 0}, {"1 ", 1},
            {"1234567891234", 12}, {"1234567891234/1", 12}, {"123456789123/1234567891234", 25}, {"12/345", 5},
            {"12/3/4", 4}, {"12//34", 3}, {"1/2/3/", 5}, {"1/2/3/4", 5}, {"1/2/3L", 5}, {"1/22", 3}, {"12/34/567", 8},
            {"12/0", 3}, {"1/2/0", 4}, {"1:", 1}, {"123456789123/123456789123/123456789123/", 38},
            {"123456789123/123456789123/1234567891231", 38}, {"12345678912301234567890123456789012345", 12},
            {"C", 0}, {"E", 0}, {"K", 0}, {"M", 0}, {"V", 0}, {"d", 0}, {"w", 0}, {"1.", 1}, {"W\u00D7", 1}};
        for (Object[] row : bad) {
            DUE.is("fault() of " + row[0], Due.faultOf((String) row[0]), (Integer) row[1]);
        }
    }

    private static void gutter() {
        BoatsOfPaper x = new BoatsOfPaper();
        DUE.is("gutter() of no text", x.gutter(), -3);
        Due.put(x, "3L/");
        DUE.is("gutter() of half a text", x.gutter(), -3);
        DUE.is("the gutter stays", x.place(0, 0), 1);
        Due.put(x, "DW");
        DUE.is("gutter()", x.gutter(), 202);
        DUE.is("gutter() once more", x.gutter(), 202);
        DUE.is("the text stays", x.count(0), 5);
        Due.put(x, "/45");
        DUE.is("gutter()", x.gutter(), 302);
        Due.put(x, "6");
        DUE.is("gutter() of a fault", x.gutter(), -3);
        DUE.is("the gutter stays", x.place(2, 1), 5);
        x.mishap(7, 8);
        x.boat(9, 9, 2, 1);
        x.run(4, true);
        DUE.is("dig", Due.dig(x, "123456789LDW"), 112);
        DUE.is("fewer lanes", x.place(1, 0), -1);
        DUE.is("mishaps stay", x.mishap(7, 8), 78);
        DUE.is("boats stay", x.count(1), 1);
        DUE.is("runs stay", x.count(4), 1);
        DUE.is("dig", Due.dig(x, "9/8/7"), 301);
        DUE.is("fewer places", x.place(0, 1), -1);
    }

    private static void place() {
        BoatsOfPaper x = new BoatsOfPaper();
        Due.dig(x, "123456789LDW/WDL987654321/555555555555");
        for (int k = 0; k < 12; k++) {
            DUE.is("place(0, " + k + ")", x.place(0, k), k + 1);
            DUE.is("place(1, " + k + ")", x.place(1, k), 12 - k);
            DUE.is("place(2, " + k + ")", x.place(2, k), 5);
        }
        int[][] unknown = {{-1, 0}, {3, 0}, {0, -1}, {0, 12}, {2, 12}, {Integer.MIN_VALUE, 0}, {0, Integer.MAX_VALUE},
            {Integer.MAX_VALUE, Integer.MAX_VALUE}, {1, Integer.MIN_VALUE}};
        for (int[] at : unknown) {
            DUE.is("place(" + at[0] + ", " + at[1] + ")", x.place(at[0], at[1]), -1);
        }
        Due.dig(x, "12/34");
        DUE.is("place(0, 2)", x.place(0, 2), -1);
        DUE.is("place(2, 0)", x.place(2, 0), -1);
    }

    private static void mishap() {
        BoatsOfPaper x = new BoatsOfPaper();
        DUE.is("mishap(10, 0)", x.mishap(10, 0), -2);
        DUE.is("mishap(0, 10)", x.mishap(0, 10), -2);
        DUE.is("mishap(-1, 0)", x.mishap(-1, 0), -2);
        DUE.is("mishap(0, -1)", x.mishap(0, -1), -2);
        DUE.is("mishap(0, 9)", x.mishap(0, 9), 32);
        DUE.is("mishap(9, 0)", x.mishap(9, 0), 9);
        DUE.is("mishap(9, 9)", x.mishap(9, 9), 90);
        DUE.is("mishap(5, 10)", x.mishap(5, 10), -2);
        DUE.is("mishap(0, 0)", x.mishap(0, 0), 99);
        x.wipe();
        Due.dig(x, "L");
        DUE.is("mishap(3, 2)", x.mishap(3, 2), 0);
        // x is the leaves', y the drains'
        x.boat(9, 9, 9, 1);
        x.mishap(4, 1);
        DUE.isFraction("ended at a leaf", x.ended(0, 0, 0, true), x.ended(0, 0, 0, false), 2, 5);
        Due.dig(x, "D");
        DUE.isFraction("ended at a drain", x.ended(0, 0, 0, true), x.ended(0, 0, 0, false), 1, 10);
    }
}
