import java.util.function.Supplier;

/** The edges of part III and of promises 14 to 20, 22 to 25, 28 and 29: what would be, and that nothing happens by it. */
public final class EdgeAheadTest {
    private static final Checks C = new Checks();
    private static final Edges E = new Edges(C);
    private static final Supplier<FogShare> LIVED = EdgeFaultTest::lived;
    // One CELL has 99 - n behind n HOURS, the other one never any.
    private static final String SLOW = "row ab;holding p 9 40;holding q 7 990;bank 0 0 99;";
    private static final String FULL = "row oooooooo;row oooooooo;row oooooooo;row oooooooo;row oooooooo;";

    public static void main(String[] args) {
        then();
        all();
        thickest();
        hid();
        lost();
        served();
        missed();
        least();
        leastOfAll();
        unseen();
        unseenAsLongAsCanBe();
        unseenEachHour();
        watchNone();
        watchUpToThree();
        watchOfAlikeOnes();
        watchByThickness();
        watchInPictures();
        sight();
        gone();
        goneInTime();
        year();
        yearFromTheSeedOn();
        nothingHappens();
        C.end("EdgeAheadTest");
    }

    private static void then() {
        C.about("promise 14: IN n HOURS (0 .. 72) FOG on a CELL; NONE: no such ones");
        E.range(LIVED, -1, 0, 2, 0, "then", 0, 0, 1);
        E.range(LIVED, -1, 0, 1, 1, "then", 0, 0, 1);
        E.range(LIVED, -1, 0, 72, 2, "then", 0, 0, 1);
        E.refused(FogShare::new, -1, "then", 0, 0, 0);
        FogShare x = C.read(SLOW);
        for (int n = 0; n <= 72; n++) {
            E.due(x, 99 - n, "then", 0, 0, n);
            E.due(x, 0, "then", 1, 0, n);
        }
        E.due(x, 48, "hours", 48);
        E.due(x, 51, "then", 0, 0, 0);
        E.due(x, 1, "then", 0, 0, 50);
        E.due(x, 0, "then", 0, 0, 51);
        E.due(x, 0, "then", 0, 0, 72);
        FogShare corner = C.read(FULL + "bank 7 4 99;");
        E.due(corner, 27, "then", 7, 4, 72);
        E.due(corner, -1, "then", 8, 4, 0);
        E.due(corner, -1, "then", 7, 5, 0);
    }

    private static void all() {
        C.about("promise 15: FOG on the land, on all CELLS of a HOLDING, its STORE; NONE: no such ones");
        for (int what = 0; what < 3; what++) {
            E.range(LIVED, -1, 0, 72, 0, "all", 0, what, 0);
        }
        E.range(LIVED, -1, 0, 2, 1, "all", 0, 0, 0);
        E.range(LIVED, -1, 0, 1, 2, "all", 0, 1, 0);
        E.range(LIVED, -1, 0, 1, 2, "all", 72, 2, 0);
        C.about("promise 15: the HOLDING is looked at for 1 and 2 alone");
        FogShare x = C.read(SLOW);
        for (int holding : new int[] {-1, 0, 1, 2, 4, Integer.MIN_VALUE, Integer.MAX_VALUE}) {
            E.due(x, 27, "all", 72, 0, holding);
            E.due(x, -1, "all", 73, 0, holding);
            E.due(x, holding == 0 ? 27 : holding == 1 ? 0 : -1, "all", 72, 1, holding);
            E.due(x, holding == 0 ? 67 : holding == 1 ? 999 : -1, "all", 72, 2, holding);
        }
        for (int n = 0; n <= 72; n++) {
            E.due(x, 99 - n, "all", n, 0, 0);
            E.due(x, 99 - n, "all", n, 1, 0);
            E.due(x, 0, "all", n, 1, 1);
            E.due(x, 40 + n / 24 * 9, "all", n, 2, 0);
            E.due(x, Math.min(999, 990 + n / 24 * 7), "all", n, 2, 1);
        }
        E.due(new FogShare(), 0, "all", 72, 0, 9);
        E.due(new FogShare(), -1, "all", 0, 1, 0);
        E.due(new FogShare(), -1, "all", 0, 2, 0);
    }

    private static void thickest() {
        C.about("promise 16: NONE, no such ones; -2: no land");
        E.range(LIVED, -1, 0, 72, 0, "thickest", 0, 0);
        E.range(LIVED, -1, 0, 72, 0, "thickest", 0, 1);
        E.range(LIVED, -1, 0, 1, 1, "thickest", 0, 0);
        E.range(FogShare::new, -1, 0, 72, 0, "thickest", 0, 0);
        E.range(FogShare::new, -1, 0, 1, 1, "thickest", 0, 0);
        FogShare x = C.read("holding h 1 1;");
        E.due(x, -2, "thickest", 0, 0);
        E.due(x, -2, "thickest", 72, 1);
        C.about("promise 16: the CELL with most FOG, of alike ones by Y, then by X");
        x = C.read(FULL);
        E.due(x, 0, "thickest", 0, 0);
        E.due(x, 0, "thickest", 0, 1);
        for (int y = 0; y < 5; y++) {
            for (int across = 0; across < 8; across++) {
                x = C.read(FULL + "bank " + across + " " + y + " 72;bank 7 4 " + (across == 7 && y == 4 ? 72 : 71) + ";");
                E.due(x, 72, "thickest", 0, 0);
                E.due(x, 10 * y + across, "thickest", 0, 1);
                E.due(x, 1, "thickest", 71, 0);
                E.due(x, 10 * y + across, "thickest", 71, 1);
                E.due(x, 0, "thickest", 72, 0);
                E.due(x, 0, "thickest", 72, 1);
            }
        }
        int[][] alike = {{7, 0, 0, 1, 7}, {1, 2, 0, 3, 21}, {3, 3, 2, 3, 32}, {0, 4, 7, 3, 37}, {5, 1, 4, 1, 14}};
        for (int[] one : alike) {
            x = C.read(FULL + "bank " + one[0] + " " + one[1] + " 99;bank " + one[2] + " " + one[3] + " 99;");
            E.due(x, one[4], "thickest", 0, 1);
            E.due(x, 99, "thickest", 0, 0);
            E.due(x, 27, "thickest", 72, 0);
        }
    }

    private static void hid() {
        C.about("promise 17: NONE, no such ones (n 1 .. 72, thick 0 .. 99)");
        E.range(LIVED, -1, 0, 2, 0, "hid", 0, 0, 1, 1);
        E.range(LIVED, -1, 0, 1, 1, "hid", 0, 0, 1, 1);
        E.range(LIVED, -1, 1, 72, 2, "hid", 0, 0, 1, 1);
        E.range(LIVED, -1, 0, 99, 3, "hid", 0, 0, 1, 1);
        C.about("promise 17: in how many of the next n hours (this one the first) as THICK as told");
        FogShare x = C.read(SLOW);
        int[][] due = {{1, 99, 1}, {1, 98, 1}, {2, 99, 1}, {2, 98, 2}, {72, 99, 1}, {72, 28, 72}, {72, 29, 71}, {72, 27, 72}, {72, 0, 72}, {71, 28, 71},
            {71, 29, 71}, {71, 30, 70}};
        for (int[] one : due) {
            E.due(x, one[2], "hid", 0, 0, one[0], one[1]);
        }
        E.due(x, 72, "hid", 1, 0, 72, 0);
        E.due(x, 0, "hid", 1, 0, 72, 1);
        E.due(x, 1, "hours", 1);
        E.due(x, 0, "hid", 0, 0, 72, 99);
        E.due(x, 72, "hid", 0, 0, 72, 27);
    }

    private static void lost() {
        C.about("promise 18: how much less FOG on the land in n HOURS (0 .. 72); NONE: no such n");
        E.range(LIVED, -1, 0, 72, 0, "lost", 0);
        E.range(FogShare::new, -1, 0, 72, 0, "lost", 0);
        FogShare x = C.read(SLOW);
        for (int n = 0; n <= 72; n++) {
            E.due(x, n, "lost", n);
        }
        x = C.read("row oo;bank 0 0 9;thins=0;");
        E.due(x, 0, "lost", 72);
        x = C.read(FULL + "bank 0 0 99;bank 1 0 99;bank 2 0 99;thins=fog;");
        E.due(x, 297, "lost", 1);
        E.due(x, 297, "lost", 72);
        E.due(x, 0, "lost", 0);
        E.due(x, 1, "hours", 1);
        E.due(x, 0, "lost", 72);
    }

    private static void served() {
        C.about("promise 19: NONE, no such ones (n 0 .. 72)");
        E.range(LIVED, -1, 0, 1, 0, "served", 0, 0);
        E.range(LIVED, -1, 0, 72, 1, "served", 0, 0);
        E.refused(FogShare::new, -1, "served", 0, 0);
        C.about("III (promise 19): all CELLS of its HOLDING as THICK at least (there must be one), or not its hour");
        FogShare x = C.read("row aao;holding p 9 99;holding q 9 99;bank 0 0 99;bank 1 0 80;thins=1;use u p 0 23 27;use v p 0 23 99;use w q 0 23 1;"
            + "use s p 5 6 99;use t q 23 23 1;");
        int[][] due = {{0, 0, 1}, {0, 53, 1}, {0, 54, 0}, {0, 72, 0}, {1, 0, 0}, {2, 0, 0}, {2, 72, 0}, {3, 0, 1}, {3, 4, 1}, {3, 5, 0}, {3, 6, 0},
            {3, 7, 1}, {3, 28, 1}, {3, 29, 0}, {3, 30, 0}, {3, 31, 1}, {4, 22, 1}, {4, 23, 0}, {4, 24, 1}, {4, 47, 0}, {4, 71, 0}, {4, 72, 1}};
        for (int[] one : due) {
            E.due(x, one[2], "served", one[0], one[1]);
        }
        E.due(x, 1, "move", 1, 0, -1);
        int[][] alone = {{0, 71, 1}, {0, 72, 1}, {1, 0, 1}, {1, 1, 0}};
        for (int[] one : alone) {
            E.due(x, one[2], "served", one[0], one[1]);
        }
        E.due(x, 1, "hours", 1);
        E.due(x, 0, "served", 0, 72);
        E.due(x, 1, "move", 0, 0, -1);
        E.due(x, 0, "served", 0, 0);
        E.due(x, 1, "move", 2, 0, 1);
        E.due(x, 0, "served", 2, 0);
        E.due(x, 1, "draw", 1, 2, 0, 1);
        E.due(x, 1, "served", 2, 0);
        E.due(x, 0, "served", 2, 1);
    }

    private static void missed() {
        C.about("promise 20: NONE, no such ones (n 1 .. 72)");
        E.range(LIVED, -1, 0, 1, 0, "missed", 0, 1);
        E.range(LIVED, -1, 1, 72, 1, "missed", 0, 1);
        E.refused(FogShare::new, -1, "missed", 0, 1);
        C.about("III (promise 20): how many of its hours in the next n (this one the first) are not SERVED");
        FogShare x = C.read("row ao;holding p 9 99;holding q 9 99;bank 0 0 99;use u p 0 23 28;use v p 0 23 29;use w q 0 23 1;use s q 0 0 1;use t q 23 23 1;"
            + "use r p 1 2 99;");
        int[][] due = {{0, 1, 0}, {0, 72, 0}, {1, 71, 0}, {1, 72, 1}, {2, 1, 1}, {2, 71, 71}, {2, 72, 72}, {3, 1, 1}, {3, 24, 1}, {3, 25, 2}, {3, 48, 2},
            {3, 49, 3}, {3, 72, 3}, {4, 1, 0}, {4, 23, 0}, {4, 24, 1}, {4, 47, 1}, {4, 48, 2}, {4, 71, 2}, {4, 72, 3}, {5, 1, 0}, {5, 2, 1}, {5, 3, 2},
            {5, 4, 2}, {5, 25, 2}, {5, 26, 3}, {5, 72, 6}};
        for (int[] one : due) {
            E.due(x, one[2], "missed", one[0], one[1]);
        }
        E.due(x, 1, "hours", 1);
        E.due(x, 1, "missed", 0, 72);
        E.due(x, 0, "missed", 0, 71);
        E.due(x, 0, "missed", 3, 23);
        E.due(x, 1, "missed", 3, 24);
    }

    private static void least() {
        C.about("promise 22: NONE, no such ones (n 0 .. 72, thick 0 .. 99)");
        E.range(LIVED, -1, 0, 2, 0, "least", 0, 0, 1, 1);
        E.range(LIVED, -1, 0, 1, 1, "least", 0, 0, 1, 1);
        E.range(LIVED, -1, 0, 72, 2, "least", 0, 0, 1, 0);
        E.range(LIVED, -1, 0, 99, 3, "least", 0, 0, 1, 1);
        E.refused(FogShare::new, -1, "least", 0, 0, 0, 0);
        C.about("III (promise 22): the least to be DRAWN now, 99 at most on it; -2: not by so much");
        FogShare x = C.read("row ab;holding p 9 0;holding q 7 990;bank 0 0 10;");
        int[][] due = {{0, 0, 0}, {0, 10, 0}, {0, 11, 1}, {0, 98, 88}, {0, 99, 89}, {1, 9, 0}, {1, 10, 1}, {1, 98, 89}, {1, 99, -2}, {72, 0, 0},
            {72, 1, 63}, {72, 26, 88}, {72, 27, 89}, {72, 28, -2}, {72, 99, -2}, {9, 1, 0}, {10, 0, 0}, {10, 1, 1}};
        for (int[] one : due) {
            E.due(x, one[2], "least", 0, 0, one[0], one[1]);
        }
        int[][] empty = {{0, 99, 99}, {0, 0, 0}, {0, 1, 1}, {1, 98, 99}, {1, 99, -2}, {72, 27, 99}, {72, 28, -2}};
        for (int[] one : empty) {
            E.due(x, one[2], "least", 1, 0, one[0], one[1]);
        }
        FogShare full = C.read("row o;bank 0 0 99;");
        E.due(full, 0, "least", 0, 0, 0, 99);
        E.due(full, 0, "least", 0, 0, 1, 98);
        E.due(full, -2, "least", 0, 0, 1, 99);
        E.due(full, 0, "least", 0, 0, 72, 27);
        E.due(full, -2, "least", 0, 0, 72, 28);
    }

    private static void leastOfAll() {
        C.about("III (promise 22): a STORE is not looked at; the least, where more is not always more");
        FogShare x = C.read("row a;holding h 1 0;bank 0 0 10;thins=if fog<20 then 0 else if fog<30 then fog else 5;");
        E.due(x, 5, "least", 0, 0, 1, 15);
        E.due(x, 9, "least", 0, 0, 1, 19);
        E.due(x, 20, "least", 0, 0, 1, 20);
        E.due(x, 20, "least", 0, 0, 1, 25);
        E.due(x, 89, "least", 0, 0, 1, 94);
        E.due(x, -2, "least", 0, 0, 1, 95);
        E.due(x, 1, "hours", 1);
        E.due(x, 5, "least", 0, 0, 1, 15);
        C.about("III (promise 22): what comes from the next CELL counts, and drifts away with what is DRAWN");
        x = C.read("row oo;bank 0 0 40;wind=1;drifts=fog/2;thins=0;");
        E.due(x, 0, "least", 1, 0, 1, 20);
        E.due(x, 1, "least", 1, 0, 1, 21);
        E.due(x, 1, "least", 0, 0, 1, 21);
        E.due(x, 59, "least", 0, 0, 1, 50);
        E.due(x, 57, "least", 0, 0, 1, 49);
        E.due(x, -2, "least", 0, 0, 1, 51);
    }

    private static void unseen() {
        C.about("promise 23: NONE, no such ones (thick 0 .. 99)");
        E.range(LIVED, -1, 0, 2, 0, "unseen", 0, 0, 0, 0, 0);
        E.range(LIVED, -1, 0, 1, 1, "unseen", 0, 0, 0, 0, 0);
        E.range(LIVED, -1, 0, 2, 2, "unseen", 0, 0, 0, 0, 0);
        E.range(LIVED, -1, 0, 1, 3, "unseen", 0, 0, 0, 0, 0);
        E.range(LIVED, -1, 0, 99, 4, "unseen", 0, 0, 0, 0, 0);
        E.refused(FogShare::new, -1, "unseen", 0, 0, 0, 0, 0);
        C.about("III (promise 23): each hour to one next to it; over the land from each CELL to each");
        FogShare x = C.read(FULL);
        for (int i = 0; i < 40; i += 3) {
            for (int k = 0; k < 40; k++) {
                int far = Math.abs(i % 8 - k % 8) + Math.abs(i / 8 - k / 8);
                C.due("unseen " + i + " " + k, C.read(FULL).unseen(i % 8, i / 8, k % 8, k / 8, 0), far);
            }
        }
        E.due(x, -2, "unseen", 0, 0, 0, 0, 1);
        x = C.read("row ooo;row ooo;bank 0 0 9;bank 2 0 9;bank 0 1 9;bank 1 1 9;bank 2 1 9;thins=0;");
        E.due(x, 4, "unseen", 0, 0, 2, 0, 9);
        E.due(x, 2, "unseen", 0, 0, 2, 0, 0);
        E.due(x, -2, "unseen", 0, 0, 1, 0, 1);
        E.due(x, -2, "unseen", 1, 0, 0, 0, 1);
        E.due(x, -2, "unseen", 1, 0, 1, 0, 1);
        E.due(x, 0, "unseen", 1, 0, 1, 0, 0);
        E.due(x, 0, "unseen", 0, 0, 0, 0, 9);
        E.due(x, -2, "unseen", 0, 0, 0, 0, 10);
        C.about("III (promise 23): no way slantwise, none around an edge");
        x = C.read("row oo;row oo;bank 0 0 9;bank 1 1 9;thins=0;");
        E.due(x, -2, "unseen", 0, 0, 1, 1, 1);
        x = C.read(FULL + "bank 7 0 9;bank 0 1 9;thins=0;");
        E.due(x, -2, "unseen", 7, 0, 0, 1, 1);
        E.due(x, -2, "unseen", 0, 1, 7, 0, 1);
    }

    private static void unseenAsLongAsCanBe() {
        C.about("III (promise 23): the fewest HOURS (0 .. 40)");
        // The middle CELL is hidden from one HOUR on: when the wind begins to blow.
        for (int hidden = 1; hidden <= 45; hidden++) {
            FogShare x = C.read("row ooo;bank 0 0 99;bank 2 0 99;thins=0;drifts=if across<1 then 9 else 0;wind=if hour+24*day<" + (hidden - 1)
                + " then 0 else 1;");
            E.due(x, hidden <= 39 ? hidden + 1 : -2, "unseen", 0, 0, 2, 0, 1);
            E.due(x, hidden <= 40 ? hidden : -2, "unseen", 0, 0, 1, 0, 1);
            E.due(x, 0, "unseen", 0, 0, 0, 0, 1);
        }
    }

    private static void unseenEachHour() {
        C.about("III (promise 23): always, at the start and behind each HOUR, on CELLS as THICK as told");
        FogShare x = C.read("row ooo;bank 0 0 9;bank 1 0 3;bank 2 0 9;thins=1;");
        int[][] due = {{4, -2}, {3, -2}, {2, 2}, {1, 2}, {0, 2}};
        for (int[] one : due) {
            E.due(x, one[1], "unseen", 0, 0, 2, 0, one[0]);
        }
        E.due(x, 1, "unseen", 0, 0, 1, 0, 2);
        E.due(x, -2, "unseen", 0, 0, 1, 0, 3);
        E.due(x, 1, "unseen", 1, 0, 0, 0, 3);
        E.due(x, -2, "unseen", 1, 0, 0, 0, 4);
        E.due(x, 1, "unseen", 1, 0, 0, 0, 1);
        C.about("III (promise 23): the one it goes to must be as THICK behind the HOUR, not ahead of it");
        x = C.read("row oo;bank 0 0 9;thins=0;wind=1;drifts=9;");
        E.due(x, 1, "unseen", 0, 0, 1, 0, 9);
        E.due(x, -2, "unseen", 1, 0, 1, 0, 9);
        E.due(x, -2, "unseen", 1, 0, 0, 0, 9);
        x = C.read("row oo;bank 0 0 9;bank 1 0 9;thins=if across<1 then 0 else 9;");
        E.due(x, -2, "unseen", 0, 0, 1, 0, 1);
        E.due(x, 1, "unseen", 1, 0, 0, 0, 9);
        E.due(x, 0, "unseen", 1, 0, 1, 0, 9);
        E.due(x, 1, "hours", 1);
        E.due(x, -2, "unseen", 1, 0, 0, 0, 9);
    }

    private static void watchNone() {
        C.about("promise 24: NONE is looked at first: no such ones, one and the same CELL, i below NONE or above 2");
        Supplier<FogShare> land = () -> C.read("row ooo;row ooo;");
        for (int i = -1; i < 3; i++) {
            for (int off : new int[] {-1, 3, 9, 13, 20, 99, -10, 100, Integer.MIN_VALUE, Integer.MAX_VALUE, 7, 8, 19, 50}) {
                E.refused(land, -1, "watch", off, 0, 0, i);
                E.refused(land, -1, "watch", 0, off, 0, i);
            }
            for (int thick : new int[] {-1, 100, Integer.MIN_VALUE, Integer.MAX_VALUE}) {
                E.refused(land, -1, "watch", 0, 12, thick, i);
                E.refused(land, -1, "watch", 0, 1, thick, i);
            }
            for (int cell : new int[] {0, 1, 2, 10, 11, 12}) {
                E.refused(land, -1, "watch", cell, cell, 0, i);
            }
            E.refused(FogShare::new, -1, "watch", 0, 1, 0, i);
            E.refused(FogShare::new, -1, "watch", 0, 0, 0, i);
        }
        for (int i : new int[] {-2, 3, 4, Integer.MIN_VALUE, Integer.MAX_VALUE}) {
            E.refused(land, -1, "watch", 0, 12, 0, i);
            E.refused(land, -1, "watch", 0, 1, 0, i);
            E.refused(land, -1, "watch", 0, 12, 99, i);
        }
        FogShare full = C.read(FULL);
        E.due(full, -1, "watch", 0, 48, 0, -1);
        E.due(full, -1, "watch", 0, 57, 0, -1);
        E.due(full, -1, "watch", 8, 0, 0, -1);
        E.due(full, -1, "watch", 9, 0, 0, -1);
        E.due(full, 2, "watch", 0, 47, 0, -1);
        E.due(full, 0, "watch", 0, 47, 99, -1);
        E.due(full, 2, "watch", 47, 0, 0, -1);
    }

    /** How many are watched, and each of them; none beyond. */
    private static void watches(FogShare x, int from, int to, int thick, int... cells) {
        E.due(x, cells.length, "watch", from, to, thick, -1);
        for (int i = 0; i < 3; i++) {
            E.due(x, i < cells.length ? cells[i] : -1, "watch", from, to, thick, i);
            E.due(x, i < cells.length ? cells[i] : -1, "watch", to, from, thick, i);
        }
    }

    private static void notByThree(FogShare x, int from, int to, int thick) {
        for (int i = -1; i < 3; i++) {
            E.due(x, -2, "watch", from, to, thick, i);
            E.due(x, -2, "watch", to, from, thick, i);
        }
    }

    private static void watchUpToThree() {
        C.about("III (promise 24): the fewest CELLS (0 .. 3); -2: not by three");
        FogShare x = C.read("row oooooooo;");
        watches(x, 0, 7, 1);
        watches(x, 0, 7, 0, 1);
        watches(x, 2, 4, 0, 3);
        notByThree(x, 3, 4, 0);
        watches(x, 3, 4, 1);
        x = C.read("row oooooooo;row oooooooo;");
        watches(x, 0, 17, 0, 1, 10);
        watches(x, 3, 15, 0, 4, 13);
        watches(x, 2, 6, 0, 3, 12);
        x = C.read("row oooooooo;row oooooooo;row oooooooo;");
        watches(x, 13, 16, 0, 3, 14, 23);
        watches(x, 10, 17, 0, 0, 11, 20);
        watches(x, 3, 26, 0, 2, 4, 13);
        x = C.read("row oooooooo;row oooooooo;row oooooooo;row oooooooo;");
        notByThree(x, 13, 16, 0);
        notByThree(x, 12, 24, 0);
        watches(x, 10, 27, 0, 0, 11, 20);
        watches(x, 0, 27, 0, 1, 10);
        x = C.read(FULL);
        notByThree(x, 11, 36, 0);
        watches(x, 11, 40, 0, 30, 41);
        C.about("III (promise 24): next to each other: none of the others helps");
        notByThree(x, 0, 1, 0);
        notByThree(x, 0, 10, 0);
        notByThree(x, 22, 32, 0);
        notByThree(x, 37, 47, 0);
    }

    private static void watchOfAlikeOnes() {
        C.about("III (promise 24): of alike ones the first by Y, then by X of the first CELL, then of the next one");
        FogShare x = C.read("row o;row o;row o;row o;row o;");
        watches(x, 0, 40, 0, 10);
        watches(x, 10, 40, 0, 20);
        watches(x, 20, 40, 0, 30);
        notByThree(x, 30, 40, 0);
        x = C.read("row ooo;row ooo;row ooo;");
        watches(x, 0, 22, 0, 1, 10);
        watches(x, 2, 20, 0, 1, 12);
        watches(x, 1, 21, 0, 0, 2, 11);
        watches(x, 10, 12, 0, 0, 11, 20);
        // A ring around one CELL without fog: one on each side.
        x = C.read("row ooo;row ooo;row ooo;bank 0 0 5;bank 1 0 5;bank 2 0 5;bank 0 1 5;bank 2 1 5;bank 0 2 5;bank 1 2 5;bank 2 2 5;");
        watches(x, 1, 21, 5, 0, 2);
        watches(x, 0, 22, 5, 1, 10);
        watches(x, 2, 20, 5, 0, 12);
        watches(x, 10, 12, 5, 0, 20);
        watches(x, 0, 2, 5, 1, 10);
        watches(x, 0, 21, 5, 1, 10);
        notByThree(x, 0, 1, 5);
    }

    private static void watchByThickness() {
        C.about("III (promise 24): by CELLS as THICK as told now (the two, too)");
        FogShare x = C.read("row ooo;bank 0 0 5;bank 1 0 6;bank 2 0 7;");
        watches(x, 0, 2, 5, 1);
        watches(x, 0, 2, 6);
        watches(x, 0, 2, 4, 1);
        x = C.read("row ooo;bank 0 0 7;bank 1 0 6;bank 2 0 5;");
        watches(x, 0, 2, 5, 1);
        watches(x, 0, 2, 6);
        x = C.read("row ooo;bank 0 0 7;bank 1 0 5;bank 2 0 7;");
        watches(x, 0, 2, 5, 1);
        watches(x, 0, 2, 6);
        watches(x, 0, 1, 6);
        notByThree(x, 0, 1, 5);
        E.due(x, 1, "hours", 1);
        watches(x, 0, 2, 5);
        watches(x, 0, 2, 4, 1);
        x = C.read("row oo;bank 0 0 99;bank 1 0 99;");
        notByThree(x, 0, 1, 99);
        E.due(x, 1, "hours", 1);
        watches(x, 0, 1, 99);
        C.about("III (promise 24): a way around an edge is none");
        x = C.read(FULL + "bank 7 0 9;bank 0 1 9;");
        watches(x, 7, 10, 9);
    }

    /** Land behind four HOURS on which all CELLS but those drawn as . have fog: it came down from the first ROW. */
    private static FogShare picture(String... rows) {
        StringBuilder text = new StringBuilder(("row " + "o".repeat(rows[0].length()) + ";").repeat(rows.length));
        for (int x = 0; x < rows[0].length(); x++) {
            text.append("bank ").append(x).append(" 0 96;");
        }
        text.append("wind=2;drifts=if down<").append(rows.length - 1).append(" then fog/2 else 0;thins=if hour<3 then 0 else if 1");
        int empty = 0;
        for (int y = 0; y < rows.length; y++) {
            for (int x = 0; x < rows[0].length(); x++) {
                if (rows[y].charAt(x) == '.') {
                    text.append(empty == 4 ? "<1 then fog else if 1" : "").append("*((across-").append(x).append(")*(across-").append(x)
                        .append(")+(down-").append(y).append(")*(down-").append(y).append("))");
                    empty++;
                }
            }
        }
        FogShare fog = C.read(text.append("<1 then fog else 0;").toString());
        E.due(fog, 4, "hours", 4);
        return fog;
    }

    private static int placeOf(char sign, String... rows) {
        for (int y = 0; y < rows.length; y++) {
            if (rows[y].indexOf(sign) >= 0) {
                return 10 * y + rows[y].indexOf(sign);
            }
        }
        return -1;
    }

    /** What must be watched between S and G. */
    private static void watches(int[] cells, String... rows) {
        watches(picture(rows), placeOf('S', rows), placeOf('G', rows), 1, cells);
    }

    private static void watchInPictures() {
        C.about("III (promise 24): the first CELL of all, the last one, and ones side by side are watched too");
        watches(new int[] {0}, "oS", "G.");
        watches(new int[] {0}, "oSoo", "G.oo", "o..o");
        watches(new int[] {47}, "oooooooo", "oooooooo", "ooooooo.", "oooooo.G", "ooooooSo");
        watches(new int[] {36, 47}, "o.oooooo", "oooooooo", "oooooooo", "oooooooG", "ooooo.So");
        watches(new int[] {27, 36, 47}, "oooooooo", "oooooooo", "oooooooo", "oooooooS", "ooooooGo");
        watches(new int[] {20, 21}, "ooo", "Goo", "ooo", "So.");
        watches(new int[] {21, 22, 33}, "ooooo", "oooSo", "ooooo", ".oGoo");
        watches(new int[] {13, 21, 22}, "oooo", "ooSo", "oooG", ".ooo");
        watches(new int[] {22, 23, 24}, "oooooo", "o.oGoo", "oooooo", "o.oSo.", "oo.o.o");
        watches(new int[] {}, "oSo", "...", "oGo");
        watches(new int[] {}, "oooSoooo", "........", "oooooooo", "oooooooo", "oooGoooo");
        watches(new int[] {1}, "Soo", ".o.", "ooo", "G..");
        watches(new int[] {21}, "ooo", "So.", "ooo", "..G");
    }

    private static void sight() {
        C.about("promise 25: NONE, no such ones (thick 0 .. 99)");
        E.range(LIVED, -1, 0, 2, 0, "sight", 0, 0, 0);
        E.range(LIVED, -1, 0, 1, 1, "sight", 0, 0, 0);
        E.range(LIVED, -1, 0, 99, 2, "sight", 0, 0, 0);
        E.refused(FogShare::new, -1, "sight", 0, 0, 0);
        C.about("III (promise 25): in its row and its column, each one on, till one is as THICK as told (not seen)");
        for (int y = 0; y < 5; y++) {
            for (int across = 0; across < 8; across++) {
                FogShare x = C.read(FULL);
                E.due(x, 11, "sight", across, y, 1);
                E.due(x, 11, "sight", across, y, 99);
                E.due(x, 0, "sight", across, y, 0);
            }
        }
        E.due(C.read("row o;bank 0 0 99;"), 0, "sight", 0, 0, 1);
        E.due(C.read("row o;bank 0 0 99;"), 0, "sight", 0, 0, 99);
        FogShare x = C.read("row oooooooo;bank 3 0 7;");
        int[][] due = {{0, 7, 2}, {0, 8, 7}, {0, 6, 2}, {2, 7, 2}, {3, 7, 7}, {3, 8, 7}, {4, 7, 3}, {7, 7, 3}, {7, 8, 7}, {3, 0, 0}};
        for (int[] one : due) {
            E.due(x, one[2], "sight", one[0], 0, one[1]);
        }
        x = C.read("row o;row o;row o;row o;row o;bank 0 2 7;");
        int[][] down = {{0, 7, 1}, {0, 8, 4}, {1, 7, 1}, {2, 7, 4}, {3, 7, 1}, {4, 7, 1}, {4, 8, 4}};
        for (int[] one : down) {
            E.due(x, one[2], "sight", 0, one[0], one[1]);
        }
        x = C.read("row ooo;row ooo;row ooo;bank 1 0 9;bank 0 1 9;bank 2 1 9;bank 1 2 9;");
        E.due(x, 0, "sight", 1, 1, 9);
        E.due(x, 4, "sight", 1, 1, 10);
        E.due(x, 1, "hours", 1);
        E.due(x, 4, "sight", 1, 1, 9);
    }

    private static void gone() {
        C.about("promise 28: NONE for others; -2: none");
        E.range(LIVED, -1, 0, 1, 0, "gone", 0);
        E.range(FogShare::new, -1, 0, 1, 0, "gone", 0);
        FogShare x = C.read("row o;holding p 1 1;holding q 1 1;");
        E.due(x, -2, "gone", 0);
        E.due(x, -2, "gone", 1);
        E.due(x, 1, "move", 0, 0, 1);
        E.due(x, 1, "gone", 0);
        E.due(x, 0, "gone", 1);
        E.due(x, -1, "gone", 2);
        x = C.read("row a;holding p 1 1;bank 0 0 9;thins=0;");
        E.due(x, -2, "gone", 0);
        E.due(x, -2, "gone", 1);
    }

    private static void goneInTime() {
        C.about("III (promise 28): FIRST GONE, behind 0 .. 72 HOURS; of alike ones the first");
        for (int fog : new int[] {0, 1, 2, 71, 72, 73, 99}) {
            FogShare x = C.read("row oa;holding p 1 1;bank 1 0 " + fog + ";bank 0 0 1;");
            E.due(x, fog <= 72 ? fog : -2, "gone", 1);
            E.due(x, fog <= 72 ? 0 : -2, "gone", 0);
        }
        int[][] two = {{5, 5, 0, 5}, {5, 4, 1, 4}, {4, 5, 0, 4}, {0, 0, 0, 0}, {1, 0, 1, 0}, {72, 73, 0, 72}, {73, 72, 1, 72}, {73, 73, -2, -2}, {72, 72, 0, 72}};
        for (int[] one : two) {
            FogShare x = C.read("row ba;holding p 1 1;holding q 1 1;holding r 1 1;bank 1 0 " + one[0] + ";bank 0 0 " + one[1] + ";");
            E.due(x, one[2], "gone", 0);
            E.due(x, one[3], "gone", 1);
        }
        C.about("III (promise 28): on all its CELLS, and drifted off the land too");
        FogShare x = C.read("row aab;holding p 1 1;holding q 1 1;bank 0 0 3;bank 1 0 1;bank 2 0 4;");
        E.due(x, 0, "gone", 0);
        E.due(x, 3, "gone", 1);
        x = C.read("row aab;holding p 1 1;holding q 1 1;bank 0 0 3;thins=0;wind=1;drifts=fog;");
        E.due(x, 1, "gone", 0);
        E.due(x, 0, "gone", 1);
        E.due(x, 1, "move", 2, 0, -1);
        E.due(x, 0, "gone", 0);
        E.due(x, 2, "gone", 1);
        E.due(x, 1, "hours", 1);
        E.due(x, 1, "gone", 1);
    }

    private static void year() {
        C.about("promise 29: NONE, no such ones (s 1 .. 20, n 0 .. 72)");
        E.range(LIVED, -1, 0, 1, 0, "year", 0, 0, 1);
        E.range(LIVED, -1, 0, 72, 1, "year", 0, 0, 1);
        E.range(LIVED, -1, 1, 20, 2, "year", 0, 0, 1);
        E.refused(FogShare::new, -1, "year", 0, 0, 1);
        C.about("III (promise 29): all of them, none of them");
        FogShare x = C.read("row a;holding p 1 1;bank 0 0 99;use u p 0 23 27;use v p 0 23 28;use w p 5 5 99;");
        for (int s = 1; s <= 20; s++) {
            E.due(x, s, "year", 0, 72, s);
            E.due(x, 0, "year", 1, 72, s);
            E.due(x, s, "year", 1, 71, s);
            E.due(x, s, "year", 2, 72, s);
            E.due(x, 0, "year", 2, 5, s);
        }
    }

    private static void yearFromTheSeedOn() {
        C.about("III (promise 29): by s SEEDS from the text's SEED on, past 9999 too");
        for (int seed : new int[] {0, 1, 500, 9979, 9980, 9981, 9998, 9999}) {
            FogShare x = C.read("row ooa;holding h 1 1;use u h 0 23 1;bank 0 0 9;wind=1;drifts=fog;thins=0;gusts 50;seed " + seed + ";");
            int due = 0;
            for (int s = 1; s <= 20; s++) {
                due += EdgeHoursTest.lot(100, seed + s - 1, 0) < 50 ? 1 : 0;
                E.due(x, due, "year", 0, 1, s);
            }
        }
        C.about("III (promise 29): the hour is counted on from now, the SEED is the text's");
        FogShare x = C.read("row ooa;holding h 1 999;use u h 0 23 1;bank 0 0 9;wind=if hour+24*day<30 then 0 else 1;drifts=fog;thins=0;gusts 50;seed 42;");
        E.due(x, 30, "hours", 30);
        int due = 0;
        for (int s = 1; s <= 20; s++) {
            due += EdgeHoursTest.lot(100, 42 + s - 1, 120) < 50 ? 1 : 0;
            E.due(x, due, "year", 0, 1, s);
            E.due(x, 0, "year", 0, 0, s);
        }
        E.due(x, EdgeHoursTest.lot(100, 42, 120) < 50 ? 1 : 0, "served", 0, 1);
    }

    private static void nothingHappens() {
        C.about("III (promises 14 to 29): what would be (nothing happens)");
        Object[][] calls = {{"then", 0, 0, 72}, {"all", 72, 0, 0}, {"all", 72, 1, 0}, {"all", 72, 2, 1}, {"thickest", 72, 0}, {"thickest", 72, 1},
            {"hid", 0, 0, 72, 1}, {"lost", 72}, {"served", 0, 72}, {"missed", 1, 72}, {"over"}, {"least", 1, 1, 72, 1}, {"least", 0, 0, 2, 99},
            {"unseen", 0, 0, 2, 1, 0}, {"unseen", 0, 0, 2, 1, 99}, {"watch", 0, 12, 0, -1}, {"watch", 0, 12, 0, 1}, {"sight", 1, 1, 1}, {"wind", 72},
            {"lent", 0, 1}, {"gone", 0}, {"gone", 1}, {"year", 0, 72, 20}, {"leaks", 2}, {"sure", 2}, {"ask", 2, 24}, {"cell", 0, 0, 2},
            {"cell", 0, 0, 3}, {"holding", 0, 6}, {"use", 0, 4}, {"count", 12}, {"place"}};
        for (Object[] one : calls) {
            int[] args = new int[one.length - 1];
            for (int i = 0; i < args.length; i++) {
                args[i] = (Integer) one[i + 1];
            }
            E.refused(LIVED, E.call(LIVED.get(), (String) one[0], args), (String) one[0], args);
        }
        C.about("III (promises 14 to 29): asked one behind the other, each answers as on an object of its own");
        FogShare x = LIVED.get();
        for (int round = 0; round < 3; round++) {
            for (Object[] one : calls) {
                int[] args = new int[one.length - 1];
                for (int i = 0; i < args.length; i++) {
                    args[i] = (Integer) one[i + 1];
                }
                E.due(x, E.call(LIVED.get(), (String) one[0], args), (String) one[0], args);
            }
        }
    }
}
