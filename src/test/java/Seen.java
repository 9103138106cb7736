import java.util.ArrayList;
import java.util.List;

/** Objects with something in them, and all that can be seen of an object. */
final class Seen {
    private Seen() {
    }

    /** With something of all, nothing full, and SLOT 1 never kept; it took some twenty calls. */
    static BoatsOfPaper half() {
        BoatsOfPaper x = new BoatsOfPaper();
        Due.dig(x, "1LD4/W2L1");
        Due.put(x, "/31D9");
        x.mishap(4, 6);
        x.boat(12, 9, 4, 3);
        x.wax(0, 17, 6);
        x.coin(0, 5, 2, 68);
        x.coin(0, 4, 1, 7);
        x.run(5, true);
        x.run(4, false);
        x.keep(0);
        x.boat(9, 12, 3, 2);
        x.wax(1, 3, 2);
        x.coin(1, 4, 7, 9);
        x.run(9, true);
        x.run(8, false);
        return x;
    }

    /** With as much of all as there can be; it took some sixty calls. */
    static BoatsOfPaper full() {
        BoatsOfPaper x = new BoatsOfPaper();
        Due.dig(x, "123456789LDD/LLLLLLLLLLLL/987654321LDW");
        Due.put(x, "//");
        x.mishap(9, 9);
        for (int boat = 0; boat < 6; boat++) {
            x.boat(9 + boat, 15 - boat, 1 + boat, 2);
            x.wax(boat, 10 * boat, boat);
        }
        for (int k = 0; k < 8; k++) {
            x.coin(0, k % 5, k, 10 + k);
            x.coin(5, k, k % 5, 20 - k);
        }
        for (int k = 0; k < 12; k++) {
            x.run(9 * k, k % 3 == 0);
        }
        x.keep(0);
        x.empty(5);
        x.keep(1);
        return x;
    }

    /** Three LANES with a wall in each, and nothing else. */
    static BoatsOfPaper walled() {
        BoatsOfPaper x = new BoatsOfPaper();
        Due.dig(x, "W11/1W1/11W");
        return x;
    }

    /** By some 340 calls at most; the object is another one then. */
    static List<Long> of(BoatsOfPaper x) {
        List<Long> seen = new ArrayList<>();
        seen.add((long) x.count(0));
        seen.add((long) x.fault());
        seeGutter(x, seen);
        seeBoatsAndRuns(x, seen);
        seen.add((long) x.mishap(0, 0));
        // what THE TEXT says is seen by making it THE GUTTER
        seen.add((long) x.gutter());
        seeGutter(x, seen);
        for (int slot = 1; slot >= 0; slot--) {
            seen.add((long) x.again(slot));
            seeBoatsAndRuns(x, seen);
        }
        return seen;
    }

    private static void seeGutter(BoatsOfPaper x, List<Long> seen) {
        for (int lane = 0; lane < 3; lane++) {
            for (int place = 0; place < 12; place++) {
                seen.add((long) x.place(lane, place));
            }
        }
    }

    private static void seeBoatsAndRuns(BoatsOfPaper x, List<Long> seen) {
        for (int what = 1; what < 5; what++) {
            seen.add((long) x.count(what));
        }
        int boats = x.count(1);
        for (int boat = 0; boat < boats; boat++) {
            for (int what = 0; what < 11; what++) {
                seen.add((long) x.about(boat, what));
            }
            seen.add(x.deep(boat, 0, true));
            seen.add(x.deep(boat, 0, false));
        }
        seen.add(x.red(true));
        seen.add(x.red(false));
    }
}
