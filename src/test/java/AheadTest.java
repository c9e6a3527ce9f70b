/** Promises 14 to 20, 22 to 25, 28 and 29: what would be. */
public final class AheadTest {
    private static final Checks C = new Checks();
    // By hand, hours 0 .. 5: 40 28 16 4 0 0, 0 8 8 8 2 0, 8 0 6 6 6 0.
    private static final String ROW = "row aob; holding ann 10 20; holding bob 5 3; holding cat 7 1; bank 0 0 40; bank 2 0 8; wind = 1;"
        + "drifts = 10; thins = 2; use flax ann 0 3 16; use wool cat 1 1 1; use hemp bob 2 23 6;";
    private static final int[][] FOG = {{40, 28, 16, 4, 0, 0}, {0, 8, 8, 8, 2, 0}, {8, 0, 6, 6, 6, 0}};

    public static void main(String[] args) {
        then();
        all();
        thickest();
        hid();
        lost();
        served();
        missed();
        least();
        unseen();
        watch();
        sight();
        gone();
        year();
        nothingHappens();
        C.end("AheadTest");
    }

    private static void then() {
        C.about("promise 14");
        FogShare x = C.read(ROW);
        for (int i = 0; i < 3; i++) {
            for (int n = 0; n < 6; n++) {
                C.due("then " + i + " 0 " + n, x.then(i, 0, n), FOG[i][n]);
            }
            C.due("then 72", x.then(i, 0, 72), 0);
        }
        x.hours(2);
        C.due("from now on", x.then(0, 0, 1), 4);
        int[][] wrong = {{3, 0, 0}, {-1, 0, 0}, {0, 1, 0}, {0, -1, 0}, {0, 0, -1}, {0, 0, 73}};
        for (int[] one : wrong) {
            C.due("no such", x.then(one[0], one[1], one[2]), -1);
        }
    }

    private static void all() {
        C.about("promise 15");
        FogShare x = C.read(ROW);
        int[] due = {48, 36, 30, 18, 8, 0};
        for (int n = 0; n < 6; n++) {
            C.due("all " + n + " 0", x.all(n, 0, -7), due[n]);
            C.due("all " + n + " 1 0", x.all(n, 1, 0), FOG[0][n]);
            C.due("all " + n + " 1 1", x.all(n, 1, 1), FOG[2][n]);
            C.due("all " + n + " 1 2", x.all(n, 1, 2), 0);
        }
        C.due("store", x.all(0, 2, 1), 3);
        C.due("store", x.all(72, 2, 1), 18);
        C.due("store", x.all(71, 2, 2), 15);
        int[][] wrong = {{-1, 0, 0}, {73, 0, 0}, {0, -1, 0}, {0, 3, 0}, {0, 1, 3}, {0, 1, -1}, {0, 2, 3}, {0, 2, -1}};
        for (int[] one : wrong) {
            C.due("no such", x.all(one[0], one[1], one[2]), -1);
        }
        C.due("the holding is not looked at", x.all(72, 0, 99), 0);
    }

    private static void thickest() {
        C.about("promise 16");
        FogShare x = C.read(ROW);
        int[][] due = {{40, 0}, {28, 0}, {16, 0}, {8, 1}, {6, 2}, {0, 0}};
        for (int n = 0; n < 6; n++) {
            C.due("thickest " + n + " 0", x.thickest(n, 0), due[n][0]);
            C.due("thickest " + n + " 1", x.thickest(n, 1), due[n][1]);
        }
        int[][] wrong = {{-1, 0}, {73, 0}, {0, -1}, {0, 2}};
        for (int[] one : wrong) {
            C.due("no such", x.thickest(one[0], one[1]), -1);
            C.due("no such, no land", new FogShare().thickest(one[0], one[1]), -1);
        }
        C.due("no land", new FogShare().thickest(72, 1), -2);
        x = C.read("row ooo; row ooo; row ooo; bank 2 1 7; bank 1 2 7; bank 0 2 6;");
        C.due("the first by Y", x.thickest(0, 1), 12);
        x = C.read("row ooo; row ooo; row ooo; bank 2 2 7; bank 1 2 7;");
        C.due("the first by X", x.thickest(0, 1), 21);
    }

    private static void hid() {
        C.about("promise 17");
        FogShare x = C.read(ROW);
        int[][] due = {{2, 1, 6, 1}, {2, 2, 6, 1}, {2, 3, 6, 2}, {2, 5, 6, 4}, {2, 6, 6, 4}, {2, 72, 6, 4}, {0, 72, 5, 3}, {0, 72, 4, 4},
            {1, 72, 0, 72}, {1, 72, 1, 4}, {1, 1, 1, 0}, {0, 1, 41, 0}, {0, 1, 40, 1}};
        for (int[] one : due) {
            C.due("hid " + one[0] + " 0 " + one[1] + " " + one[2], x.hid(one[0], 0, one[1], one[2]), one[3]);
        }
        int[][] wrong = {{3, 0, 1, 1}, {-1, 0, 1, 1}, {0, 1, 1, 1}, {0, 0, 0, 1}, {0, 0, 73, 1}, {0, 0, -1, 1}, {0, 0, 1, -1}, {0, 0, 1, 100}};
        for (int[] one : wrong) {
            C.due("no such", x.hid(one[0], one[1], one[2], one[3]), -1);
        }
    }

    private static void lost() {
        C.about("promise 18");
        FogShare x = C.read(ROW);
        int[] due = {0, 12, 18, 30, 40, 48};
        for (int n = 0; n < 6; n++) {
            C.due("lost " + n, x.lost(n), due[n]);
        }
        x.hours(3);
        C.due("from now on", x.lost(1), 10);
        C.due("lost 72", x.lost(72), 18);
        C.due("lost 73", x.lost(73), -1);
        C.due("lost -1", x.lost(-1), -1);
    }

    private static void served() {
        C.about("promise 19");
        FogShare x = C.read(ROW);
        int[] flax = {1, 1, 1, 0, 1, 1};
        int[] wool = {1, 0, 1, 1, 1, 1};
        int[] hemp = {1, 1, 1, 1, 1, 0};
        for (int n = 0; n < 6; n++) {
            C.due("served 0 " + n, x.served(0, n), flax[n]);
            C.due("served 1 " + n, x.served(1, n), wool[n]);
            C.due("served 2 " + n, x.served(2, n), hemp[n]);
        }
        C.due("the next day", x.served(0, 24), 0);
        C.due("its last hour", x.served(0, 27), 0);
        C.due("no more its hour", x.served(0, 28), 1);
        x.move(1, 0, 0);
        C.due("all cells", x.served(0, 0), 0);
        C.due("from now on", x.hours(1), 1);
        C.due("all cells", x.served(0, 0), 0);
        C.due("not its hour", x.served(2, 0), 1);
        int[][] wrong = {{3, 0}, {-1, 0}, {0, 73}, {0, -1}};
        for (int[] one : wrong) {
            C.due("no such", x.served(one[0], one[1]), -1);
        }
    }

    private static void missed() {
        C.about("promise 20");
        FogShare x = C.read(ROW);
        int[][] due = {{0, 1, 0}, {0, 3, 0}, {0, 4, 1}, {0, 24, 1}, {0, 25, 2}, {0, 72, 9}, {1, 1, 0}, {1, 2, 1}, {1, 72, 3},
            {2, 5, 0}, {2, 6, 1}, {2, 24, 19}};
        for (int[] one : due) {
            C.due("missed " + one[0] + " " + one[1], x.missed(one[0], one[1]), one[2]);
        }
        int[][] wrong = {{3, 1}, {-1, 1}, {0, 73}, {0, 0}, {0, -1}};
        for (int[] one : wrong) {
            C.due("no such", x.missed(one[0], one[1]), -1);
        }
    }

    private static void least() {
        C.about("promise 22");
        FogShare x = C.read(ROW);
        int[][] due = {{0, 1, 28, 0}, {0, 1, 29, 1}, {0, 1, 87, 59}, {0, 1, 88, -2}, {1, 2, 20, 24}, {1, 0, 7, 7}, {1, 0, 99, 99},
            {0, 0, 40, 0}, {0, 0, 99, 59}, {2, 0, 0, 0}, {2, 1, 1, 5}, {0, 72, 1, -2}, {0, 72, 0, 0}};
        for (int[] one : due) {
            C.due("least " + one[0] + " 0 " + one[1] + " " + one[2], x.least(one[0], 0, one[1], one[2]), one[3]);
        }
        int[][] wrong = {{3, 0, 1, 1}, {-1, 0, 1, 1}, {0, 1, 1, 1}, {0, -1, 1, 1}, {0, 0, -1, 1}, {0, 0, 73, 1}, {0, 0, 1, -1}, {0, 0, 1, 100}};
        for (int[] one : wrong) {
            C.due("no such", x.least(one[0], one[1], one[2], one[3]), -1);
        }
        x = C.read("row a; holding h 1 0; bank 0 0 10; thins = if fog < 20 then 0 else if fog < 30 then 20 else fog - 5;");
        C.due("thin on its way up: 19 stay", x.least(0, 0, 1, 15), 5);
        C.due("more is less", x.least(0, 0, 1, 20), -2);
        C.due("the store is not looked at", x.least(0, 0, 0, 99), 89);
    }

    private static void unseen() {
        C.about("promise 23");
        FogShare x = C.read(ROW);
        int[][] due = {{0, 2, 6, 2}, {0, 2, 7, -2}, {1, 2, 1, -2}, {0, 2, 0, 2}, {2, 0, 8, 2}, {2, 0, 9, -2}, {0, 0, 40, 0}, {0, 0, 41, -2},
            {0, 1, 8, 1}, {0, 1, 9, -2}, {1, 1, 0, 0}};
        for (int[] one : due) {
            C.due("unseen " + one[0] + " " + one[1] + " " + one[2], x.unseen(one[0], 0, one[1], 0, one[2]), one[3]);
        }
        int[][] wrong = {{3, 0, 0, 0, 0}, {-1, 0, 0, 0, 0}, {0, 1, 0, 0, 0}, {0, 0, 3, 0, 0}, {0, 0, 0, 1, 0}, {0, 0, 0, -1, 0}, {0, 0, 0, 0, -1},
            {0, 0, 0, 0, 100}};
        for (int[] one : wrong) {
            C.due("no such", x.unseen(one[0], one[1], one[2], one[3], one[4]), -1);
        }
        // The middle is gone till the cloud from the left reaches it: one waits.
        x = C.read("row oooo; bank 0 0 9; bank 1 0 9; bank 3 0 9; thins = 0; wind = if hour < 6 then 0 else 1; drifts = if across < 2 then fog / 2 else 0;");
        C.due("waiting", x.unseen(0, 0, 3, 0, 4), 8);
        C.due("waiting longer", x.unseen(0, 0, 3, 0, 5), 9);
        C.due("not so thick", x.unseen(0, 0, 3, 0, 10), -2);
        // Forty hours, and not one more.
        String later = "row ooo; bank 0 0 99; bank 2 0 99; thins = 0; drifts = if across < 1 then 9 else 0;"
            + "wind = if hour + day * 24 < ";
        C.due("40 hours", C.read(later + "38 then 0 else 1;").unseen(0, 0, 2, 0, 1), 40);
        C.due("41 hours", C.read(later + "39 then 0 else 1;").unseen(0, 0, 2, 0, 1), -2);
        x = C.read("row oooooooo; row oooooooo; row oooooooo; row oooooooo; row oooooooo;");
        C.due("corner to corner", x.unseen(0, 0, 7, 4, 0), 11);
        C.due("corner to corner", x.unseen(7, 0, 0, 4, 0), 11);
        C.due("no way around an edge", x.unseen(7, 1, 0, 2, 0), 8);
    }

    private static void watches(FogShare x, int from, int to, int thick, int... cells) {
        C.due("watch " + from + " " + to + " " + thick, x.watch(from, to, thick, -1), cells.length);
        for (int i = 0; i < 3; i++) {
            C.due("watch " + from + " " + to + " " + thick + " " + i, x.watch(from, to, thick, i), i < cells.length ? cells[i] : -1);
        }
        C.due("watch, the other way", x.watch(to, from, thick, -1), cells.length);
    }

    private static void unwatched(FogShare x, int from, int to, int thick) {
        for (int i = -1; i < 3; i++) {
            C.due("watch " + from + " " + to + " " + thick + " " + i, x.watch(from, to, thick, i), -2);
        }
    }

    private static void watch() {
        C.about("promise 24");
        FogShare x = C.read("row oooooooo; row oooooooo; row oooooooo; row oooooooo; row oooooooo;");
        watches(x, 0, 47, 0, 1, 10);
        watches(x, 0, 47, 1);
        watches(x, 0, 20, 0, 1, 10);
        watches(x, 23, 10, 0, 0, 11, 20);
        unwatched(x, 23, 25, 0);
        unwatched(x, 23, 24, 0);
        unwatched(x, 0, 10, 0);
        watches(x, 7, 10, 0, 6, 17);
        x = C.read("row ooooo; row ooooo; row ooooo;");
        watches(x, 11, 13, 0, 1, 12, 21);
        watches(x, 10, 14, 0, 0, 11, 20);
        x = C.read("row ooo; row ooo; bank 0 0 5; bank 1 0 5; bank 2 0 5; bank 0 1 4; bank 1 1 4;");
        watches(x, 0, 2, 5, 1);
        watches(x, 0, 2, 4, 1);
        watches(x, 0, 2, 0, 1, 10);
        watches(x, 10, 2, 4, 1);
        watches(x, 10, 2, 5);
        watches(x, 0, 12, 1);
        x = C.read("row ooooo;");
        watches(x, 0, 4, 0, 1);
        watches(x, 1, 3, 0, 2);
        int[][] wrong = {{0, 5, 0, 0}, {0, 10, 0, 0}, {-1, 0, 0, 0}, {0, -1, 0, 0}, {0, 19, 0, 0}, {2, 2, 0, 0}, {0, 2, -1, 0}, {0, 2, 100, 0},
            {0, 2, 0, -2}, {0, 2, 0, 3}, {0, 1, 0, 3}, {0, 1, 0, -2}, {0, 1, 100, -1}, {Integer.MAX_VALUE, 0, 0, 0}, {0, 8, 0, 0}};
        for (int[] one : wrong) {
            C.due("no such", x.watch(one[0], one[1], one[2], one[3]), -1);
        }
        C.due("no land", new FogShare().watch(0, 0, 0, -1), -1);
    }

    private static void sight() {
        C.about("promise 25");
        FogShare x = C.read("row oooo; row oooo; row oooo; bank 0 1 9; bank 3 1 2; bank 1 2 5; bank 1 1 50;");
        int[][] due = {{1, 1, 0, 0}, {1, 1, 2, 2}, {1, 1, 3, 3}, {1, 1, 5, 3}, {1, 1, 6, 4}, {1, 1, 10, 5}, {0, 0, 1, 3}, {0, 0, 10, 5},
            {3, 2, 1, 1}, {3, 2, 2, 1}, {3, 2, 3, 3}, {3, 2, 6, 5}, {2, 0, 99, 5}};
        for (int[] one : due) {
            C.due("sight " + one[0] + " " + one[1] + " " + one[2], x.sight(one[0], one[1], one[2]), one[3]);
        }
        int[][] wrong = {{4, 0, 0}, {-1, 0, 0}, {0, 3, 0}, {0, -1, 0}, {0, 0, -1}, {0, 0, 100}};
        for (int[] one : wrong) {
            C.due("no such", x.sight(one[0], one[1], one[2]), -1);
        }
        x = C.read("row oooooooo; row oooooooo; row oooooooo; row oooooooo; row oooooooo;");
        C.due("the whole row and column", x.sight(0, 0, 1), 11);
        C.due("the whole row and column", x.sight(7, 4, 1), 11);
    }

    private static void gone() {
        C.about("promise 28");
        FogShare x = C.read(ROW);
        C.due("which", x.gone(0), 1);
        C.due("when", x.gone(1), 1);
        x.hours(1);
        C.due("now already", x.gone(1), 0);
        C.due("which", x.gone(0), 1);
        x.move(2, 0, -1);
        C.due("which", x.gone(0), 0);
        C.due("when", x.gone(1), 3);
        x.move(0, 0, 2);
        x.move(1, 0, 1);
        C.due("which", x.gone(0), 2);
        x.move(0, 0, -1);
        x.move(1, 0, -1);
        C.due("none has cells", x.gone(0), -2);
        C.due("none has cells", x.gone(1), -2);
        C.due("gone(2)", x.gone(2), -1);
        C.due("gone(-1)", x.gone(-1), -1);
        x = C.read("row ba; holding a 1 1; holding b 1 1; bank 0 0 4; bank 1 0 4;");
        C.due("of alike ones the first", x.gone(0), 0);
        C.due("when", x.gone(1), 4);
        String slow = "row a; holding a 1 1; bank 0 0 72; thins = ";
        C.due("behind 72", C.read(slow + "1;").gone(1), 72);
        C.due("behind 73", C.read(slow + "1; bank 0 0 73;").gone(1), -2);
        C.due("never", C.read(slow + "0;").gone(0), -2);
    }

    private static void year() {
        C.about("promise 29");
        // LOT 100 of the SEEDS 5 .. 9 and 0: 78 91 6 35 30; a GUST brings the fog to the third cell.
        String text = "row ooa; holding h 1 1; use u h 0 23 1; use v h 1 1 1; bank 0 0 9; wind = 1; drifts = fog; thins = 0; seed 5; gusts ";
        FogShare x = C.read(text + "36;");
        int[] due = {0, 0, 1, 2, 3};
        for (int s = 1; s <= 5; s++) {
            C.due("year 0 1 " + s, x.year(0, 1, s), due[s - 1]);
            C.due("year 1 1 " + s, x.year(1, 1, s), due[s - 1]);
            C.due("not its hour", x.year(1, 0, s), s);
            C.due("no fog there now", x.year(0, 0, s), 0);
        }
        C.due("just less", C.read(text + "35;").year(0, 1, 5), 2);
        C.due("20 seeds from 9999 on", C.read(text + "20; seed 9999;").year(0, 1, 20), 3);
        C.due("the seed itself is as before", x.then(2, 0, 1), 0);
        int[][] wrong = {{2, 0, 1}, {-1, 0, 1}, {0, 73, 1}, {0, -1, 1}, {0, 0, 0}, {0, 0, 21}};
        for (int[] one : wrong) {
            C.due("no such", x.year(one[0], one[1], one[2]), -1);
        }
        C.due("72 hours, 20 seeds", x.year(0, 72, 20), 0);
    }

    private static void nothingHappens() {
        C.about("III: nothing happens");
        FogShare x = C.read(ROW + "gusts 50;");
        x.hours(1);
        int[] before = new int[18];
        for (int what = 0; what < 18; what++) {
            before[what] = x.count(what);
        }
        x.then(0, 0, 72);
        x.all(72, 2, 0);
        x.thickest(72, 0);
        x.hid(0, 0, 72, 1);
        x.lost(72);
        x.served(0, 72);
        x.missed(0, 72);
        x.least(0, 0, 30, 50);
        x.unseen(0, 0, 2, 0, 1);
        x.watch(0, 2, 0, -1);
        x.sight(0, 0, 0);
        x.gone(0);
        x.year(0, 72, 20);
        x.leaks(0);
        x.sure(0);
        x.ask(0, 24);
        for (int what = 0; what < 18; what++) {
            C.due("count(" + what + ")", x.count(what), before[what]);
        }
        C.due("fog", x.cell(0, 0, 0), x.then(0, 0, 0));
    }
}
