import java.util.function.Supplier;

/** The edges of part IV and of promises 30 to 34: what is TOLD, which leaks it leaves, what to measure next. */
public final class EdgeLeakTest {
    private static final Checks C = new Checks();
    private static final Edges E = new Edges(C);
    private static final Supplier<FogShare> LIVED = EdgeFaultTest::lived;
    private static final String FULL = "row oooooooo;row oooooooo;row oooooooo;row oooooooo;row oooooooo;";

    public static void main(String[] args) {
        tell();
        twenty();
        forget();
        knownByK();
        leakOfEachCell();
        leakSmallestAndLargest();
        leakBehindThins();
        leakAheadOfThe99();
        leakWithGusts();
        fromTheTextsBegin();
        hourByHour();
        sure();
        ask();
        askOfAlikeOnes();
        askAtWorst();
        C.end("EdgeLeakTest");
    }

    private static FogShare two() {
        return C.read("row oo; bank 0 0 20; bank 1 0 20; leak 4;");
    }

    private static void tell() {
        C.about("promise 30: NONE, and nothing happens: no such ones (n 0 .. 24, FOG 0 .. 99)");
        E.range(LIVED, -1, 0, 2, 0, "tell", 0, 0, 1, 1);
        E.range(LIVED, -1, 0, 1, 1, "tell", 0, 0, 1, 1);
        E.range(LIVED, -1, 0, 24, 2, "tell", 0, 0, 1, 1);
        E.range(LIVED, -1, 0, 99, 3, "tell", 0, 0, 1, 1);
        E.refused(FogShare::new, -1, "tell", 0, 0, 0, 0);
        C.about("promise 30: its number, from 0 on");
        int[][] edges = {{0, 0, 0, 0}, {7, 4, 24, 99}, {7, 0, 0, 99}, {0, 4, 24, 0}};
        FogShare x = C.read(FULL);
        for (int i = 0; i < edges.length; i++) {
            E.due(x, i, "tell", edges[i]);
            E.due(x, i + 1, "count", 10);
        }
    }

    private static FogShare tellings(int many) {
        FogShare x = two();
        for (int i = 0; i < many; i++) {
            E.due(x, i, "tell", i % 2, 0, i, i < 10 ? 20 - i : 20);
        }
        return x;
    }

    private static void twenty() {
        C.about("promise 30: NONE, and nothing happens: 20 are there");
        FogShare x = tellings(19);
        E.due(x, 19, "count", 10);
        E.due(x, 19, "tell", 0, 0, 0, 20);
        E.due(x, 20, "count", 10);
        E.due(x, -1, "tell", 0, 0, 0, 20);
        E.due(x, 20, "count", 10);
        E.refused(() -> tellings(20), -1, "tell", 0, 0, 0, 20);
        E.refused(() -> tellings(20), -1, "tell", 1, 0, 24, 99);
        C.about("promises 30 and 32: the 20th counts, the refused one does not");
        x = two();
        for (int i = 0; i < 19; i++) {
            E.due(x, i, "tell", 0, 0, 0, 20);
        }
        E.due(x, 19, "tell", 0, 0, 1, 15);
        E.due(x, -1, "tell", 1, 0, 1, 15);
        E.due(x, 3, "leaks", 19);
        E.due(x, 1, "leaks", 20);
        E.due(x, 0, "sure", 20);
        E.due(x, -1, "leaks", 21);
        C.about("promise 30: behind forget() from 0 on again; no thing done");
        E.due(x, 20, "forget");
        for (int i = 0; i < 20; i++) {
            E.due(x, i, "tell", 1, 0, 1, 15);
        }
        E.due(x, -1, "tell", 1, 0, 1, 15);
        E.due(x, 1, "sure", 20);
        E.due(x, 0, "count", 9);
        E.due(x, 0, "undo");
        E.due(x, 20, "count", 10);
    }

    private static void forget() {
        C.about("promise 31: all is forgotten: how many there were");
        E.refused(FogShare::new, 0, "forget");
        E.refused(EdgeLeakTest::two, 0, "forget");
        for (int many : new int[] {0, 1, 2, 19, 20}) {
            FogShare x = tellings(many);
            E.due(x, many, "forget");
            E.due(x, 0, "forget");
            E.due(x, 0, "count", 10);
            E.due(x, -1, "leaks", 1);
            E.due(x, 3, "leaks", 0);
            E.due(x, 0, "tell", 0, 0, 0, 1);
            E.due(x, 0, "leaks", 1);
        }
    }

    private static void knownByK() {
        C.about("IV (promises 32 to 34): KNOWN by k: the first k; NONE: no such k");
        for (int many : new int[] {0, 1, 3, 20}) {
            Supplier<FogShare> made = () -> tellings(many);
            E.range(made, -1, 0, many, 0, "leaks", 0);
            E.range(made, -1, 0, many, 0, "sure", 0);
            E.range(made, -1, 0, many, 0, "ask", 0, 0);
        }
        E.range(LIVED, -1, 0, 24, 1, "ask", 0, 0);
        E.range(FogShare::new, -1, 0, 24, 1, "ask", 0, 0);
        FogShare x = two();
        E.due(x, 0, "tell", 0, 0, 2, 18);
        E.due(x, 1, "tell", 1, 0, 2, 10);
        E.due(x, 2, "tell", 1, 0, 3, 10);
        E.due(x, 3, "tell", 0, 0, 2, 18);
        int[] left = {3, 2, 1, 0, 0};
        int[] sure = {-2, -2, 1, -2, -2};
        int[] ask = {0, 1, 0, -2, -2};
        for (int k = 0; k <= 4; k++) {
            E.due(x, left[k], "leaks", k);
            E.due(x, sure[k], "sure", k);
            E.due(x, ask[k], "ask", k, 2);
        }
        C.about("IV (promise 32): told twice alike, and told twice otherwise");
        x = two();
        E.due(x, 0, "tell", 0, 0, 1, 15);
        E.due(x, 1, "tell", 0, 0, 1, 15);
        E.due(x, 2, "tell", 0, 0, 1, 19);
        E.due(x, 1, "leaks", 2);
        E.due(x, 0, "leaks", 3);
    }

    private static void leakOfEachCell() {
        C.about("IV (promises 32 and 33): those with which all that is KNOWN is so, each CELL by itself");
        StringBuilder text = new StringBuilder();
        for (int i = 0; i < 12; i++) {
            text.append("bank ").append(i * 3 % 8).append(' ').append(i * 3 / 8).append(" 20;");
        }
        FogShare x = C.read(FULL + text);
        E.due(x, 41, "leaks", 0);
        for (int i = 0; i < 12; i++) {
            E.due(x, 0, "tell", i * 3 % 8, i * 3 / 8, 1, 16);
            E.due(x, 1, "leaks", 1);
            E.due(x, i * 3 / 8 * 10 + i * 3 % 8, "sure", 1);
            E.due(x, 1, "forget");
            E.due(x, 0, "tell", i * 3 % 8, i * 3 / 8, 1, 19);
            E.due(x, 40, "leaks", 1);
            E.due(x, -2, "sure", 1);
            E.due(x, 1, "forget");
        }
        C.about("IV (promise 32): none of them leaking counts as one more");
        E.due(new FogShare(), 1, "leaks", 0);
        E.due(C.read("holding h 1 1;"), 1, "leaks", 0);
        E.due(C.read("row o;"), 2, "leaks", 0);
        E.due(C.read(FULL), 41, "leaks", 0);
        E.due(new FogShare(), 100, "sure", 0);
        E.due(C.read("row o;"), -2, "sure", 0);
        C.about("IV (promise 32): a CELL without FOG leaks nothing");
        x = C.read("row ooo;bank 0 0 20;");
        E.due(x, 0, "tell", 0, 0, 24, 0);
        E.due(x, 4, "leaks", 1);
        E.due(x, 1, "tell", 1, 0, 24, 0);
        E.due(x, 2, "tell", 0, 0, 3, 17);
        E.due(x, 3, "leaks", 3);
    }

    private static void leakSmallestAndLargest() {
        C.about("IV (promise 32): LEAK 0 .. 99 is gone there besides (0 at least)");
        for (int leak : new int[] {0, 1, 2, 18, 19, 20, 98, 99}) {
            FogShare x = C.read("row oo;bank 0 0 20;bank 1 0 20;leak " + leak + ";");
            int behind = Math.max(0, 19 - leak);
            E.due(x, 0, "tell", 0, 0, 1, behind);
            E.due(x, leak == 0 ? 3 : 1, "leaks", 1);
            E.due(x, leak == 0 ? -2 : 0, "sure", 1);
            E.due(x, 1, "tell", 0, 0, 2, Math.max(0, behind - 1 - leak));
            E.due(x, leak == 0 ? 3 : 1, "leaks", 2);
            E.due(x, 2, "tell", 0, 0, 24, 0);
            E.due(x, leak == 0 ? 3 : 1, "leaks", 3);
            E.due(x, 3, "tell", 1, 0, 1, 19);
            E.due(x, leak == 0 ? 3 : 1, "leaks", 4);
        }
        FogShare x = C.read("row o;bank 0 0 99;thins=0;leak 99;");
        E.due(x, 0, "tell", 0, 0, 1, 0);
        E.due(x, 0, "sure", 1);
        x = C.read("row o;bank 0 0 99;thins=0;leak 98;");
        E.due(x, 0, "tell", 0, 0, 1, 1);
        E.due(x, 1, "tell", 0, 0, 2, 0);
        E.due(x, 0, "sure", 2);
        C.about("IV (promise 32): each hour, from the first one on; in hour 0 nothing has leaked");
        x = two();
        E.due(x, 0, "tell", 0, 0, 0, 20);
        E.due(x, 3, "leaks", 1);
        for (int n = 1; n <= 4; n++) {
            E.due(x, n, "tell", 0, 0, n, 20 - 5 * n);
            E.due(x, 0, "sure", n + 1);
        }
        x = C.read("row o;bank 0 0 99;thins=0;leak 4;");
        E.due(x, 0, "tell", 0, 0, 24, 3);
        E.due(x, 0, "sure", 1);
    }

    private static void leakBehindThins() {
        C.about("IV (promise 32): behind THINS");
        FogShare x = C.read("row o;bank 0 0 40;thins=fog/2;leak 10;");
        E.due(x, 0, "tell", 0, 0, 1, 10);
        E.due(x, 0, "sure", 1);
        E.due(x, 1, "forget");
        E.due(x, 0, "tell", 0, 0, 1, 15);
        E.due(x, 0, "leaks", 1);
        C.about("IV (promise 32): behind the steps, on the CELL itself alone");
        x = C.read("row ooo;bank 0 0 40;wind=1;drifts=fog/2;thins=0;leak 10;");
        int[][] leaking = {{10, 20, 0}, {20, 10, 0}, {20, 20, 0}};
        for (int cell = 0; cell < 2; cell++) {
            for (int i = 0; i < 3; i++) {
                E.due(x, i, "tell", i, 0, 1, leaking[cell][i]);
            }
            E.due(x, 1, "leaks", 3);
            E.due(x, cell, "sure", 3);
            E.due(x, 3, "forget");
        }
        E.due(x, 0, "tell", 1, 0, 1, 20);
        E.due(x, 1, "tell", 0, 0, 1, 20);
        E.due(x, 2, "leaks", 2);
    }

    private static void leakAheadOfThe99() {
        C.about("IV (promise 32): ahead of the 99");
        String text = "row oo;bank 0 0 99;bank 1 0 99;wind=1;drifts=if across<1 then 50 else 0;thins=0;leak ";
        int[][] due = {{49, 99, 3}, {50, 99, 3}, {51, 98, 1}, {99, 50, 1}, {0, 99, 3}};
        for (int[] one : due) {
            FogShare x = C.read(text + one[0] + ";");
            E.due(x, 0, "tell", 1, 0, 1, one[1]);
            E.due(x, one[2], "leaks", 1);
            E.due(x, one[2] == 1 ? 1 : -2, "sure", 1);
        }
    }

    private static void leakWithGusts() {
        C.about("IV (promise 32): with two steps in an HOUR it leaks once");
        FogShare x = C.read("row oooo;bank 0 0 80;wind=1;drifts=fog;thins=0;gusts 100;leak 7;");
        E.due(x, 0, "tell", 2, 0, 1, 73);
        E.due(x, 2, "sure", 1);
        E.due(x, 1, "forget");
        E.due(x, 0, "tell", 2, 0, 1, 80);
        E.due(x, 4, "leaks", 1);
        C.about("IV (promise 32): by the text's SEED");
        for (int seed : new int[] {0, 7, 9999}) {
            int gust = EdgeHoursTest.lot(100, seed, 0) < 50 ? 1 : 0;
            x = C.read("row oooo;bank 0 0 80;wind=1;drifts=fog;thins=0;gusts 50;leak 7;seed " + seed + ";");
            E.due(x, 0, "tell", 1 + gust, 0, 1, 73);
            E.due(x, 1 + gust, "sure", 1);
        }
    }

    private static void fromTheTextsBegin() {
        C.about("IV (promises 30, 32 to 34): in the n-th hour from the text's begin, nothing by hand");
        FogShare x = C.read("row ab;holding p 9 99;holding q 9 99;bank 0 0 20;bank 1 0 20;thins=whose+1;leak 4;");
        E.due(x, 40, "draw", 0, 0, 0, 20);
        E.due(x, 1, "move", 1, 0, -1);
        E.due(x, 1, "move", 0, 0, 1);
        E.due(x, 90, "lend", 1, 0, 9);
        E.due(x, 30, "hours", 30);
        E.due(x, 0, "tell", 0, 0, 1, 15);
        E.due(x, 1, "tell", 1, 0, 1, 18);
        E.due(x, 2, "tell", 0, 0, 0, 20);
        E.due(x, 1, "leaks", 3);
        E.due(x, 0, "sure", 3);
        E.due(x, -2, "sure", 0);
        E.due(x, 0, "ask", 0, 1);
        E.due(x, 1, "hold", 0);
        E.due(x, 1, "undo");
        E.due(x, 0, "sure", 3);
        E.due(x, 1, "restore", 0);
        E.due(x, 0, "sure", 3);
        E.due(x, 3, "forget");
        E.due(x, 0, "tell", 1, 0, 1, 14);
        E.due(x, 1, "sure", 1);
    }

    private static void hourByHour() {
        C.about("IV (promises 30, 32 to 34): n 0 .. 24, the hour and the day of the text's begin");
        FogShare x = C.read("row o;bank 0 0 99;thins=hour/23*9;leak 1;");
        E.due(x, 0, "tell", 0, 0, 23, 76);
        E.due(x, 1, "tell", 0, 0, 24, 66);
        E.due(x, 0, "sure", 2);
        E.due(x, 2, "forget");
        E.due(x, 0, "tell", 0, 0, 23, 99);
        E.due(x, 1, "tell", 0, 0, 24, 90);
        E.due(x, 100, "sure", 2);
        x = C.read("row oo;bank 0 0 99;bank 1 0 99;leak 1;");
        for (int n = 0; n <= 24; n++) {
            E.due(x, 0, "tell", 1, 0, n, 99 - 2 * n);
            E.due(x, n == 0 ? 3 : 1, "leaks", 1);
            E.due(x, n == 0 ? -2 : 1, "sure", 1);
            E.due(x, 0, "ask", 0, n);
            E.due(x, 1, "forget");
        }
    }

    private static void sure() {
        C.about("promise 33: 10 * Y + X, 100: none leaks; -2: this or that, nothing is left");
        StringBuilder banks = new StringBuilder();
        for (int y = 0; y < 5; y++) {
            banks.append("bank 0 ").append(y).append(" 9;bank 7 ").append(y).append(" 9;");
        }
        FogShare x = C.read(FULL + banks);
        for (int y = 0; y < 5; y++) {
            for (int across = 0; across < 8; across += 7) {
                E.due(x, 0, "tell", across, y, 1, 5);
                E.due(x, 10 * y + across, "sure", 1);
                E.due(x, 1, "tell", across, y, 1, 8);
                E.due(x, -2, "sure", 2);
                E.due(x, -2, "sure", 0);
                E.due(x, 2, "forget");
            }
        }
        x = C.read("row oo;bank 0 0 9;bank 1 0 9;");
        E.due(x, 0, "tell", 0, 0, 1, 8);
        E.due(x, -2, "sure", 1);
        E.due(x, 1, "tell", 1, 0, 1, 8);
        E.due(x, 100, "sure", 2);
        E.due(x, 2, "tell", 1, 0, 1, 9);
        E.due(x, -2, "sure", 3);
    }

    private static void ask() {
        C.about("promise 34: -2, nothing is left, no land");
        E.due(new FogShare(), -2, "ask", 0, 0);
        E.due(new FogShare(), -2, "ask", 0, 24);
        E.due(C.read("holding h 1 1;"), -2, "ask", 0, 0);
        FogShare x = two();
        E.due(x, 0, "tell", 0, 0, 0, 1);
        E.due(x, -2, "ask", 1, 0);
        E.due(x, -2, "ask", 1, 24);
        E.due(x, 0, "ask", 0, 24);
        C.about("promise 34: where both could be told NONE is");
        E.due(x, -1, "ask", 1, 25);
        E.due(x, -1, "ask", 1, -1);
        E.due(x, -1, "ask", 2, 0);
        E.due(new FogShare(), -1, "ask", 0, 25);
        E.due(new FogShare(), -1, "ask", 1, 0);
    }

    private static void askOfAlikeOnes() {
        C.about("IV (promise 34): of alike ones by Y, then by X");
        E.due(C.read(FULL), 0, "ask", 0, 24);
        E.due(C.read("row o;"), 0, "ask", 0, 0);
        int[][] banks = {{7, 0}, {0, 1}, {3, 2}, {7, 4}, {0, 4}, {5, 3}};
        for (int i = 0; i < banks.length; i++) {
            for (int k = 0; k < banks.length; k++) {
                FogShare x = C.read(FULL + "bank " + banks[i][0] + " " + banks[i][1] + " 20;bank " + banks[k][0] + " " + banks[k][1] + " 20;");
                int one = 10 * banks[i][1] + banks[i][0];
                int other = 10 * banks[k][1] + banks[k][0];
                E.due(x, Math.min(one, other), "ask", 0, 1);
                E.due(x, 0, "ask", 0, 0);
                E.due(x, 0, "tell", banks[i][0], banks[i][1], 1, 16);
                E.due(x, 1, "leaks", 1);
                E.due(x, 0, "ask", 1, 1);
            }
        }
    }

    private static void askAtWorst() {
        C.about("IV (promise 34): so that fewest are left, at worst");
        // Behind one HOUR the fog of both rows is on the second CELLS: what is measured there tells more than on the first ones.
        FogShare x = C.read("row ooo;row ooo;bank 0 0 40;bank 0 1 40;wind=1;drifts=fog;thins=0;leak 5;");
        E.due(x, 1, "ask", 0, 1);
        E.due(x, 2, "ask", 0, 2);
        E.due(x, 0, "ask", 0, 0);
        E.due(x, 0, "tell", 2, 0, 2, 35);
        E.due(x, 2, "leaks", 1);
        E.due(x, 1, "ask", 1, 1);
        E.due(x, 0, "ask", 1, 2);
        E.due(x, 1, "tell", 1, 0, 1, 40);
        E.due(x, 2, "sure", 2);
        E.due(x, 0, "ask", 2, 2);
        E.due(x, 2, "forget");
        E.due(x, 0, "tell", 2, 0, 2, 40);
        E.due(x, 5, "leaks", 1);
        E.due(x, 12, "ask", 1, 2);
        E.due(x, 11, "ask", 1, 1);
        C.about("IV (promise 34): the hour that is measured may be ahead of, in, and behind what is KNOWN");
        x = C.read("row oo;bank 0 0 40;bank 1 0 40;leak 2;");
        E.due(x, 0, "tell", 0, 0, 5, 35);
        E.due(x, 2, "leaks", 1);
        E.due(x, 1, "ask", 1, 1);
        E.due(x, 1, "ask", 1, 5);
        E.due(x, 1, "ask", 1, 9);
        E.due(x, 0, "ask", 1, 0);
        E.due(x, 1, "ask", 1, 24);
        C.about("IV (promise 34): the first CELL tells nothing where more than 99 lies on it, whichever leaks");
        x = C.read("row oo;bank 0 0 99;bank 1 0 99;wind=3;drifts=if across<1 then 0 else 50;thins=0;leak 10;");
        E.due(x, 1, "ask", 0, 1);
        C.about("IV (promise 34): FOG 0 and FOG 99 are told apart like all others");
        x = C.read("row oo;bank 0 0 99;bank 1 0 3;thins=0;leak 99;");
        E.due(x, 0, "ask", 0, 1);
        E.due(x, 0, "tell", 0, 0, 1, 99);
        E.due(x, 1, "ask", 1, 1);
        E.due(x, 1, "tell", 1, 0, 1, 0);
        E.due(x, 1, "sure", 2);
    }
}
