import java.util.function.Supplier;

/** The edges of promises 6 to 11, 13, 21, 27 and 35 to 37: what is now, by hand, undone, held, counted. */
public final class EdgeNowTest {
    private static final Checks C = new Checks();
    private static final Edges E = new Edges(C);
    private static final Supplier<FogShare> LIVED = EdgeFaultTest::lived;

    public static void main(String[] args) {
        cell();
        holding();
        holdingOver();
        use();
        draw();
        drawToTheEdges();
        lend();
        lendToTheEdges();
        move();
        undo();
        undoneOneByOne();
        over();
        lent();
        hold();
        restore();
        holdingOn();
        count();
        countAtTheEdges();
        refusedIsNoThingDone();
        mostCalls();
        objectsByThemselves();
        C.end("EdgeNowTest");
    }

    private static void cell() {
        C.about("promise 6: -100 for others");
        for (int what = 0; what < 4; what++) {
            E.range(LIVED, -100, 0, 2, 0, "cell", 0, 0, what);
            E.range(LIVED, -100, 0, 1, 1, "cell", 0, 0, what);
        }
        E.range(LIVED, -100, 0, 3, 2, "cell", 0, 0, 0);
        E.refused(LIVED, -100, "cell", 3, 2, 4);
        E.refused(LIVED, -100, "cell", -1, -1, -1);
        C.about("promise 6: the smallest land and the largest");
        FogShare x = C.read("row o;");
        E.range(() -> C.read("row o;"), -100, 0, 0, 0, "cell", 0, 0, 1);
        E.range(() -> C.read("row o;"), -100, 0, 0, 1, "cell", 0, 0, 1);
        E.due(x, 0, "cell", 0, 0, 0);
        E.due(x, 9, "cell", 0, 0, 1);
        String full = "row oooooooo;".repeat(5);
        E.range(() -> C.read(full), -100, 0, 7, 0, "cell", 0, 4, 1);
        E.range(() -> C.read(full), -100, 0, 4, 1, "cell", 7, 0, 1);
        C.about("promise 6: FOG 0 .. 99, whose, what DRIFTS tells now, what THINS tells now");
        x = C.read("row ao;row oa;holding h 1 9;bank 0 0 99;bank 1 0 1;drifts=fog/4;thins=fog/3;");
        int[][] due = {{99, 0, 24, 33}, {1, 9, 0, 0}, {0, 9, 0, 0}, {0, 0, 0, 0}};
        for (int i = 0; i < 4; i++) {
            for (int what = 0; what < 4; what++) {
                E.due(x, due[i][what], "cell", i % 2, i / 2, what);
            }
        }
        E.due(x, 4, "draw", 0, 1, 1, 4);
        E.due(x, 4, "cell", 1, 1, 0);
        E.due(x, 1, "cell", 1, 1, 2);
        E.due(x, 1, "cell", 1, 1, 3);
    }

    private static void holding() {
        C.about("promise 7: -100000 for others");
        for (int what = 0; what < 7; what++) {
            E.range(LIVED, -100000, 0, 1, 0, "holding", 0, what);
        }
        E.range(LIVED, -100000, 0, 6, 1, "holding", 0, 0);
        E.range(LIVED, -100000, 0, 6, 1, "holding", 1, 0);
        E.refused(LIVED, -100000, "holding", 2, 7);
        E.due(C.read("row o;"), -100000, "holding", 0, 0);
        FogShare x = C.read("holding a 1 1;holding b 2 2;holding c 3 3;holding d 99 999;");
        E.due(x, 99, "holding", 3, 0);
        E.due(x, 999, "holding", 3, 1);
        E.due(x, -100000, "holding", 4, 0);
        C.about("promise 7: a HOLDING without CELLS, and one of all of them");
        x = C.read("row aa;row aa;holding a 0 0;holding b 0 0;bank 0 0 99;bank 1 0 99;bank 0 1 99;bank 1 1 99;");
        int[][] due = {{0, 0, 4, 396, 1, 0, 0}, {0, 0, 0, 0, 0, 0, 0}};
        for (int h = 0; h < 2; h++) {
            for (int what = 0; what < 7; what++) {
                E.due(x, due[h][what], "holding", h, what);
            }
        }
    }

    private static void holdingOver() {
        C.about("promises 7 and 21: OVER, more FOG on their CELLS than their RATION");
        int[][] rations = {{0, 0, 0}, {0, 1, 1}, {5, 4, 0}, {5, 5, 0}, {5, 6, 1}, {99, 98, 0}, {99, 99, 0}, {98, 99, 1}};
        for (int[] one : rations) {
            FogShare x = C.read("row a;holding h " + one[0] + " 9;bank 0 0 " + one[1] + ";");
            E.due(x, one[2], "holding", 0, 4);
            E.due(x, one[2], "over");
        }
        FogShare x = C.read("row aao;holding h 9 99;bank 0 0 5;bank 1 0 4;bank 2 0 9;");
        E.due(x, 0, "holding", 0, 4);
        E.due(x, 1, "move", 2, 0, 0);
        E.due(x, 1, "holding", 0, 4);
        E.due(x, 1, "undo");
        E.due(x, 0, "over");
        E.due(x, 5, "draw", 0, 1, 0, 1);
        E.due(x, 1, "over");
        E.due(x, 1, "hours", 1);
        E.due(x, 0, "over");
    }

    private static void use() {
        C.about("promise 8: NONE for others");
        for (int what = 0; what < 5; what++) {
            E.range(LIVED, -1, 0, 1, 0, "use", 0, what);
        }
        E.range(LIVED, -1, 0, 4, 1, "use", 0, 0);
        E.refused(LIVED, -1, "use", 2, 5);
        C.about("promise 8: FROM, TILL: its hour, the first, the last, the ones beside them");
        int[][] spans = {{0, 0}, {23, 23}, {0, 23}, {5, 5}, {5, 6}, {0, 22}, {1, 23}};
        for (int[] span : spans) {
            FogShare x = C.read("holding h 1 1;use u h " + span[0] + " " + span[1] + " 99;");
            for (int hour = 0; hour < 50; hour++) {
                E.due(x, hour % 24 >= span[0] && hour % 24 <= span[1] ? 1 : 0, "use", 0, 4);
                E.due(x, hour + 1, "hours", 1);
            }
            E.due(x, 0, "use", 0, 0);
            E.due(x, span[0], "use", 0, 1);
            E.due(x, span[1], "use", 0, 2);
            E.due(x, 99, "use", 0, 3);
        }
    }

    private static FogShare two() {
        return C.read("row aabo;holding p 9 999;holding q 9 50;bank 0 0 30;bank 2 0 98;bank 3 0 1;");
    }

    private static void draw() {
        C.about("promise 9: NONE, no such ones (n 1 .. 99); nothing happens");
        Supplier<FogShare> made = EdgeNowTest::two;
        E.range(made, -1, 0, 1, 0, "draw", 0, 0, 0, 1);
        E.range(made, -1, 0, 3, 1, "draw", 0, 0, 0, 1);
        E.range(made, -1, 0, 0, 2, "draw", 0, 0, 0, 1);
        E.range(made, -1, 1, 99, 3, "draw", 0, 1, 0, 1);
        E.refused(made, -1, "draw", 0, 0, 0, 0);
        C.about("promise 9: -2, and nothing happens: not its CELL, not so much in STORE, more than 99 there");
        int[][] not = {{0, 2, 0, 1}, {0, 3, 0, 1}, {1, 0, 0, 1}, {1, 3, 0, 1}, {1, 2, 0, 2}, {1, 2, 0, 51}, {1, 2, 0, 99}, {0, 0, 0, 70}, {0, 0, 0, 99}};
        for (int[] one : not) {
            E.refused(made, -2, "draw", one);
        }
        C.about("promise 9: where both could be told NONE is");
        int[][] none = {{0, 2, 0, 0}, {0, 2, 0, 100}, {1, 2, 0, 100}, {0, 0, 0, 100}, {2, 2, 0, 1}, {-1, 3, 0, 1}, {9, 3, 0, 1}, {0, 4, 0, 99}, {0, 2, 1, 1}};
        for (int[] one : none) {
            E.refused(made, -1, "draw", one);
        }
        E.refused(FogShare::new, -1, "draw", 0, 0, 0, 1);
    }

    private static void drawToTheEdges() {
        C.about("promise 9: 99 at most there, all of a STORE, how much it DREW");
        FogShare x = two();
        E.due(x, 99, "draw", 1, 2, 0, 1);
        E.due(x, 49, "holding", 1, 1);
        E.due(x, -2, "draw", 1, 2, 0, 1);
        E.due(x, 49, "holding", 1, 1);
        E.due(x, 99, "draw", 0, 0, 0, 69);
        E.due(x, 99, "draw", 0, 1, 0, 99);
        E.due(x, 831, "holding", 0, 1);
        E.due(x, 168, "holding", 0, 5);
        E.due(x, 1, "holding", 1, 5);
        E.due(x, 169, "count", 7);
        x = C.read("row aa;holding p 9 20;bank 0 0 79;");
        E.due(x, -2, "draw", 0, 1, 0, 21);
        E.due(x, 20, "draw", 0, 1, 0, 20);
        E.due(x, 0, "holding", 0, 1);
        E.due(x, -2, "draw", 0, 1, 0, 1);
        E.due(x, 1, "undo");
        E.due(x, 20, "holding", 0, 1);
        E.due(x, 0, "holding", 0, 5);
        E.due(x, 99, "draw", 0, 0, 0, 20);
        C.about("promise 9: a CELL that is its own since it was MOVED, and one that is so no more");
        x = two();
        E.due(x, 1, "move", 3, 0, 0);
        E.due(x, 1, "move", 0, 0, -1);
        E.due(x, 99, "draw", 0, 3, 0, 98);
        E.due(x, -2, "draw", 0, 0, 0, 1);
    }

    private static FogShare three() {
        return C.read("holding p 9 999;holding q 9 0;holding r 9 995;");
    }

    private static void lend() {
        C.about("promise 10: NONE, no such ones (n 1 .. 999), one and the same; nothing happens");
        Supplier<FogShare> made = EdgeNowTest::three;
        E.refused(made, -1, "lend", 0, 0, 1);
        E.refused(made, -1, "lend", 2, 2, 999);
        E.range(made, -1, 1, 2, 0, "lend", 1, 0, 1);
        E.range(made, -1, 1, 2, 1, "lend", 0, 1, 1);
        E.range(made, -1, 0, 1, 1, "lend", 2, 0, 1);
        E.range(made, -1, 1, 999, 2, "lend", 0, 1, 1);
        C.about("promise 10: -2, and nothing happens: not so much, more than 999 there");
        int[][] not = {{1, 0, 1}, {1, 2, 1}, {0, 2, 5}, {0, 2, 999}, {2, 1, 996}, {2, 0, 1}, {1, 0, 999}};
        for (int[] one : not) {
            E.refused(made, -2, "lend", one);
        }
        C.about("promise 10: where both could be told NONE is");
        int[][] none = {{1, 1, 1}, {1, 0, 0}, {1, 0, 1000}, {0, 2, 1000}, {1, 3, 1}, {3, 1, 1}, {1, -1, 1}};
        for (int[] one : none) {
            E.refused(made, -1, "lend", one);
        }
        E.refused(FogShare::new, -1, "lend", 0, 1, 1);
    }

    private static void lendToTheEdges() {
        C.about("promises 10, 7 and 27: all of a STORE, 999 there; LENT so far, NETTED");
        FogShare x = three();
        E.due(x, 995, "lend", 0, 2, 4);
        E.due(x, 999, "holding", 2, 1);
        E.due(x, -2, "lend", 0, 2, 1);
        E.due(x, 0, "lend", 0, 1, 995);
        E.due(x, -2, "lend", 0, 1, 1);
        E.due(x, 0, "lend", 2, 0, 999);
        E.due(x, 999, "holding", 0, 1);
        E.due(x, 994, "lend", 1, 2, 1);
        E.due(x, 998, "lend", 0, 2, 1);
        int[][] lent = {{-1, 995, 5}, {0, -1, 1}, {999, 0, -1}};
        for (int h = 0; h < 3; h++) {
            for (int o = 0; o < 3; o++) {
                E.due(x, lent[h][o], "lent", h, o);
            }
        }
        E.due(x, 1000 - 999, "holding", 0, 6);
        E.due(x, 1 - 995, "holding", 1, 6);
        E.due(x, 999 - 6, "holding", 2, 6);
        C.about("promise 27: lent there and back is owed each way");
        x = C.read("holding p 9 999;holding q 9 0;");
        for (int i = 1; i <= 60; i++) {
            E.due(x, 0, "lend", 0, 1, 999);
            E.due(x, 0, "lend", 1, 0, 999);
            E.due(x, 999 * i, "lent", 0, 1);
            E.due(x, 999 * i, "lent", 1, 0);
            E.due(x, 0, "holding", 0, 6);
        }
    }

    private static void move() {
        C.about("promise 11: false, and nothing happens: it is so, no such ones");
        Supplier<FogShare> made = EdgeNowTest::two;
        int[][] not = {{0, 0, 0}, {1, 0, 0}, {2, 0, 1}, {3, 0, -1}, {0, 0, 2}, {0, 0, -2}, {0, 0, 9}, {3, 0, 9}, {0, 0, Integer.MIN_VALUE},
            {0, 0, Integer.MAX_VALUE}, {0, 0, 4}};
        for (int[] one : not) {
            E.refused(made, 0, "move", one);
        }
        E.refused(made, 0, "move", 4, 0, 0);
        E.refused(made, 0, "move", -1, 0, 0);
        E.refused(made, 0, "move", 0, 1, 1);
        E.refused(made, 0, "move", 0, -1, 1);
        E.refused(FogShare::new, 0, "move", 0, 0, -1);
        C.about("promise 11: MOVED to each HOLDING, and to nobody, from each");
        FogShare x = C.read("row abcdo;holding p 1 9;holding q 1 9;holding r 1 9;holding s 1 9;bank 0 0 9;");
        for (int at = 0; at < 5; at++) {
            for (int to : new int[] {-1, 0, 1, 2, 3, -1, 3, 2, 1, 0, at == 4 ? -1 : at}) {
                int is = E.call(x, "cell", at, 0, 1);
                E.due(x, is == (to == -1 ? 9 : to) ? 0 : 1, "move", at, 0, to);
                E.due(x, to == -1 ? 9 : to, "cell", at, 0, 1);
            }
        }
        E.due(x, 9, "cell", 0, 0, 0);
        C.about("promise 11: the smallest and the largest HOLDING there is");
        E.due(C.read("row o;holding p 1 9;"), 1, "move", 0, 0, 0);
        E.due(C.read("row o;holding p 1 9;"), 0, "move", 0, 0, 1);
        E.due(C.read("row o;"), 0, "move", 0, 0, 0);
        E.due(C.read("row oo;row oo;holding p 1 9;"), 1, "move", 1, 1, 0);
    }

    private static void undo() {
        C.about("promise 13: false, there is none");
        E.refused(FogShare::new, 0, "undo");
        E.refused(EdgeNowTest::two, 0, "undo");
        C.about("promise 13: the last 30 can be, of each sort");
        for (int things = 28; things <= 62; things++) {
            FogShare x = C.read("row ab;holding p 9 999;holding q 9 0;thins=0;gives=0;");
            for (int i = 0; i < things; i++) {
                aThing(x, i);
                E.due(x, Math.min(30, i + 1), "count", 9);
            }
            int[] then = state(x);
            for (int i = things - 1; i >= 0 && i >= things - 30; i--) {
                E.due(x, 1, "undo");
                E.due(x, Math.min(30, things) - (things - i), "count", 9);
            }
            E.due(x, 0, "undo");
            E.due(x, 0, "undo");
            E.due(x, 0, "count", 9);
            FogShare fresh = C.read("row ab;holding p 9 999;holding q 9 0;thins=0;gives=0;");
            for (int i = 0; i < things - 30; i++) {
                aThing(fresh, i);
            }
            sameState(x, state(fresh));
            for (int i = Math.max(0, things - 30); i < things; i++) {
                aThing(x, i);
            }
            sameState(x, then);
        }
    }

    private static void aThing(FogShare x, int i) {
        switch (i % 5) {
            case 0: E.due(x, 1 + i / 5, "draw", 0, 0, 0, 1); break;
            case 1: E.due(x, E.call(x, "holding", 0, 1) - i - 1, "lend", 0, 1, 1 + i); break;
            case 2: E.due(x, 1, "move", 1, 0, i % 2 == 0 ? -1 : 0); break;
            case 3: E.due(x, 1, "move", 1, 0, 1); break;
            default: E.due(x, i / 5 + 1, "hours", 1); break;
        }
    }

    private static int[] state(FogShare x) {
        int[] all = new int[12];
        for (int i = 0; i < 2; i++) {
            all[i] = E.call(x, "cell", i, 0, 0);
            all[2 + i] = E.call(x, "cell", i, 0, 1);
            all[4 + i] = E.call(x, "holding", i, 1);
            all[6 + i] = E.call(x, "holding", i, 5);
            all[8 + i] = E.call(x, "lent", i, 1 - i);
        }
        all[10] = E.call(x, "count", 4);
        return all;
    }

    private static void sameState(FogShare x, int[] want) {
        int[] got = state(x);
        for (int i = 0; i < want.length; i++) {
            C.due("state " + i, got[i], want[i]);
        }
    }

    private static void undoneOneByOne() {
        C.about("promise 13: each thing done is undone whole: FOG, whose, STORES, DREW, LENT, the hour");
        FogShare x = C.read("row aob; holding ann 10 20; holding bob 5 3; bank 0 0 40; bank 2 0 8; wind = 1;");
        int[][] states = new int[20][];
        int[] owners = {0, 1, -1, 0, 1};
        int done = 0;
        for (int i = 0; i < 5; i++) {
            states[done++] = state(x);
            E.call(x, "draw", 0, 0, 0, 1);
            states[done++] = state(x);
            E.call(x, "lend", 0, 1, 2);
            states[done++] = state(x);
            E.due(x, 1, "move", 1, 0, owners[i]);
            states[done++] = state(x);
            E.due(x, 24 * i + 24, "hours", 24);
        }
        while (done > 0) {
            E.due(x, 1, "undo");
            done--;
            sameState(x, states[done]);
        }
        E.due(x, 0, "undo");
        C.about("promise 13: what is TOLD, the tape and SLOTS are no things done");
        x = two();
        E.due(x, 0, "tell", 0, 0, 1, 5);
        E.due(x, 1, "hold", 0);
        C.feed(x, "row o;");
        E.due(x, 0, "count", 9);
        E.due(x, 0, "undo");
        E.due(x, 1, "count", 10);
        E.due(x, 1, "count", 11);
        E.due(x, 6, "count", 8);
    }

    private static void over() {
        C.about("promise 21: OVER (bits), none and all");
        for (int bits = 0; bits < 16; bits++) {
            StringBuilder text = new StringBuilder("row abcd;");
            for (int i = 0; i < 4; i++) {
                text.append("holding ").append((char) ('p' + i)).append(" 5 9;bank ").append(i).append(" 0 ").append(5 + (bits >> i & 1)).append(';');
            }
            E.due(C.read(text.toString()), bits, "over");
        }
        E.due(new FogShare(), 0, "over");
        E.due(C.read("row o;bank 0 0 99;holding h 0 9;"), 0, "over");
    }

    private static void lent() {
        C.about("promise 27: NONE, no such ones, one and the same");
        E.range(LIVED, -1, 0, 0, 0, "lent", 0, 1);
        E.range(LIVED, -1, 1, 1, 1, "lent", 0, 1);
        E.refused(LIVED, -1, "lent", 0, 0);
        E.refused(LIVED, -1, "lent", 1, 1);
        E.refused(FogShare::new, -1, "lent", 0, 1);
        FogShare x = C.read("holding a 1 9;holding b 1 9;holding c 1 9;holding d 1 9;");
        for (int h = 0; h < 4; h++) {
            for (int o = 0; o < 4; o++) {
                E.due(x, h == o ? -1 : 0, "lent", h, o);
            }
        }
        E.due(x, 1, "lend", 3, 2, 8);
        E.due(x, 15, "lend", 2, 3, 2);
        E.due(x, 8, "lent", 3, 2);
        E.due(x, 2, "lent", 2, 3);
        E.due(x, 6, "holding", 3, 6);
        E.due(x, -6, "holding", 2, 6);
        E.due(x, 0, "lent", 0, 3);
    }

    private static void hold() {
        C.about("promise 35: SLOT (0 .. 2); false, no such one");
        E.range(LIVED, 0, 0, 2, 0, "hold", 0);
        FogShare x = new FogShare();
        for (int slot = 0; slot < 3; slot++) {
            E.due(x, slot, "count", 11);
            E.due(x, 1, "hold", slot);
            E.due(x, 1, "hold", slot);
        }
        E.due(x, 3, "count", 11);
        E.due(x, 0, "hold", 3);
        E.due(x, 3, "count", 11);
    }

    private static void restore() {
        C.about("promise 36: false, and nothing happens: no such one, nothing is held");
        int[] not = {-1, 3, 0, Integer.MIN_VALUE, Integer.MAX_VALUE};
        for (int slot : not) {
            E.refused(LIVED, 0, "restore", slot);
            E.refused(FogShare::new, 0, "restore", slot);
        }
        C.about("promise 36: that stays there; nothing can be undone then");
        for (int slot = 0; slot < 3; slot++) {
            FogShare x = two();
            E.due(x, 31, "draw", 0, 0, 0, 1);
            E.due(x, 1, "hold", slot);
            for (int i = 0; i < 3; i++) {
                E.due(x, 40, "draw", 0, 0, 0, 9);
                E.due(x, 5, "hours", 5);
                E.due(x, 1, "move", 0, 0, 1);
                E.due(x, i == 0 ? 4 : 3, "count", 9);
                E.due(x, 1, "restore", slot);
                E.due(x, 0, "count", 9);
                E.due(x, 0, "undo");
                E.due(x, 31, "cell", 0, 0, 0);
                E.due(x, 0, "cell", 0, 0, 1);
                E.due(x, 0, "count", 4);
                E.due(x, 1, "holding", 0, 5);
            }
        }
        C.about("promises 35 and 36: what can be undone is so still behind hold(), and what is held is not undone");
        FogShare x = two();
        E.due(x, 31, "draw", 0, 0, 0, 1);
        E.due(x, 1, "hold", 0);
        E.due(x, 1, "count", 9);
        E.due(x, 1, "undo");
        E.due(x, 30, "cell", 0, 0, 0);
        E.due(x, 1, "restore", 0);
        E.due(x, 31, "cell", 0, 0, 0);
    }

    private static void holdingOn() {
        C.about("promise 35: held again it is what goes on now; each SLOT is one of its own");
        FogShare x = C.read("row a;holding h 9 99;thins=0;");
        for (int slot = 0; slot < 3; slot++) {
            E.due(x, slot + 1, "draw", 0, 0, 0, 1);
            E.due(x, 1, "hold", slot);
        }
        for (int slot = 2; slot >= 0; slot--) {
            E.due(x, 1, "restore", slot);
            E.due(x, slot + 1, "cell", 0, 0, 0);
        }
        E.due(x, 9, "draw", 0, 0, 0, 8);
        E.due(x, 1, "hold", 1);
        E.due(x, 1, "restore", 0);
        E.due(x, 1, "cell", 0, 0, 0);
        E.due(x, 1, "restore", 1);
        E.due(x, 9, "cell", 0, 0, 0);
        C.about("promise 35: not what is TOLD, nor the tape");
        x = C.read("row a;holding h 9 99;");
        E.due(x, 0, "tell", 0, 0, 0, 0);
        E.due(x, 1, "hold", 0);
        E.due(x, 1, "tell", 0, 0, 1, 0);
        C.feed(x, "row oo;");
        E.due(x, 1, "restore", 0);
        E.due(x, 2, "count", 10);
        E.due(x, 7, "count", 8);
        E.due(x, 2, "forget");
        E.due(x, 1, "restore", 0);
        E.due(x, 0, "count", 10);
        E.due(x, 0, "read");
        E.due(x, 2, "count", 0);
        E.due(x, 0, "restore", 0);
        C.about("promises 35 and 36: the hour, FOG, whose, STORES, DREW, LENT are held");
        x = C.read("row aob; holding ann 10 20; holding bob 5 3; bank 0 0 40; bank 2 0 8; wind = 1;");
        E.call(x, "draw", 0, 0, 0, 1);
        E.call(x, "lend", 0, 1, 2);
        E.call(x, "move", 1, 0, 1);
        E.call(x, "hours", 30);
        int[] held = state(x);
        E.due(x, 1, "hold", 2);
        E.call(x, "draw", 0, 0, 0, 1);
        E.call(x, "lend", 1, 0, 2);
        E.call(x, "move", 1, 0, 0);
        E.call(x, "hours", 30);
        E.due(x, 1, "restore", 2);
        sameState(x, held);
        int later = E.call(x, "all", 20, 0, 0);
        E.due(x, 50, "hours", 20);
        E.due(x, later, "count", 5);
    }

    private static void count() {
        C.about("promise 37: NONE for others");
        E.range(LIVED, -1, 0, 17, 0, "count", 0);
        E.range(FogShare::new, -1, 0, 17, 0, "count", 0);
        C.about("promise 37: each of them by itself");
        FogShare x = C.read("row abo;row ooo;row oob;holding p 3 40;holding q 4 50;use u p 0 1 1;bank 0 0 5;bank 1 0 7;bank 0 0 6;");
        int[] due = {3, 3, 2, 1, 0, 13, 90, 0, 0, 0, 0, 0, 0, 3, 6, 7, 0, 7};
        for (int what = 0; what <= 17; what++) {
            E.due(x, due[what], "count", what);
        }
        step(x, due, new int[][] {{5, 15}, {6, 88}, {7, 2}, {9, 1}}, "draw", 0, 0, 0, 2);
        step(x, due, new int[][] {{9, 2}}, "lend", 0, 1, 9);
        step(x, due, new int[][] {{9, 3}, {14, 5}}, "move", 1, 2, 1);
        step(x, due, new int[][] {{5, 13}, {4, 1}, {9, 4}}, "hours", 1);
        step(x, due, new int[][] {{10, 1}}, "tell", 0, 0, 0, 2);
        step(x, due, new int[][] {{11, 1}}, "hold", 2);
        step(x, due, new int[][] {{8, 20}}, "feed", 0, 0, 0, 0, 0);
        step(x, due, new int[][] {{8, 1}}, "back", 19);
        step(x, due, new int[][] {{4, 24}, {16, 1}, {5, 0}, {6, 95}, {9, 5}, {15, 9}}, "hours", 23);
        step(x, due, new int[][] {{4, 1}, {16, 0}, {5, 13}, {6, 88}, {9, 4}, {15, 7}}, "undo");
        step(x, due, new int[][] {{10, 0}}, "forget");
        step(x, due, new int[][] {{9, 0}}, "restore", 2);
        step(x, due, new int[][] {{8, 0}}, "read");
    }

    private static void step(FogShare x, int[] due, int[][] changes, String name, int... args) {
        E.call(x, name, args);
        for (int[] change : changes) {
            due[change[0]] = change[1];
        }
        for (int what = 0; what <= 17; what++) {
            C.due("count(" + what + ") behind " + Edges.named(name, args), E.call(x, "count", what), due[what]);
        }
    }

    private static void countAtTheEdges() {
        C.about("promise 37: nothing told, and all of it");
        FogShare x = C.read("row oooooooo;".repeat(5));
        E.due(x, 40, "count", 14);
        E.due(x, 40, "count", 15);
        x = C.read("row oo;bank 0 0 1;bank 1 0 99;");
        E.due(x, 0, "count", 15);
        E.due(x, 100, "count", 5);
        E.due(x, 1, "hours", 1);
        E.due(x, 1, "count", 15);
        x = C.read("row aa;holding p 99 999;");
        E.due(x, 0, "count", 14);
        E.due(x, 1, "move", 0, 0, -1);
        E.due(x, 1, "count", 14);
        E.due(x, 99, "count", 17);
        E.due(x, 999, "count", 6);
        E.due(x, 23, "hours", 23);
        E.due(x, 0, "count", 16);
        E.due(x, 24, "hours", 1);
        E.due(x, 1, "count", 16);
        C.about("promise 37: 12, a GUST in this hour");
        x = C.read("seed 5;gusts 78;wind=1;");
        E.due(x, 0, "count", 12);
        E.due(C.read("seed 5;gusts 79;wind=1;"), 1, "count", 12);
        E.due(C.read("seed 5;gusts 79;"), 1, "count", 12);
    }

    private static void refusedIsNoThingDone() {
        C.about("promises 9 to 13, 30, 35, 36: what is refused on an object that has lived changes nothing");
        int[][] draws = {{0, 0, 0, 100}, {0, 0, 0, 0}, {0, 1, 0, 1}, {1, 0, 0, 1}, {0, 0, 0, 99}, {0, 2, 1, 1}, {2, 0, 0, 1}, {0, 3, 0, 1}, {0, 0, 2, 1}};
        for (int[] one : draws) {
            FogShare x = LIVED.get();
            E.refused(LIVED, E.call(x, "draw", one), "draw", one);
        }
        E.refused(LIVED, -2, "lend", 0, 1, 999);
        E.refused(LIVED, -1, "lend", 0, 1, 1000);
        E.refused(LIVED, -1, "lend", 1, 1, 1);
        E.refused(LIVED, 0, "move", 1, 0, -1);
        E.refused(LIVED, 0, "move", 0, 0, 0);
        E.refused(LIVED, 0, "move", 0, 0, 2);
        E.refused(LIVED, -1, "hours", 49);
        E.refused(LIVED, 25, "hours", 0);
        E.refused(LIVED, -1, "back", 1);
        E.refused(LIVED, -1, "tell", 0, 0, 25, 1);
        E.refused(LIVED, 0, "hold", 3);
        E.refused(LIVED, 0, "restore", 0);
        E.refused(LIVED, 0, "back", 0);
    }

    private static void mostCalls() {
        C.about("an object is used for at most 512 calls: the 512th is answered (promises 12, 13 and 37)");
        FogShare x = new FogShare();
        for (int i = 1; i <= 510; i++) {
            E.due(x, 48 * i, "hours", 48);
        }
        E.due(x, 30, "count", 9);
        E.due(x, 1020, "count", 16);
        x = C.read("row a;holding h 1 50;thins=0;");
        for (int i = 0; i < 234; i++) {
            E.due(x, 1, "draw", 0, 0, 0, 1);
            E.due(x, 1, "undo");
        }
        for (int i = 1; i <= 34; i++) {
            E.due(x, i, "draw", 0, 0, 0, 1);
        }
        E.due(x, 30, "count", 9);
        E.due(x, 1, "undo");
        E.due(x, 33, "cell", 0, 0, 0);
        x = C.read("row ab;holding p 1 9;holding q 1 9;");
        for (int i = 1; i <= 247; i++) {
            E.due(x, 1, "move", 0, 0, i % 2 == 0 ? 0 : 1);
            E.due(x, 1, "hold", i % 3);
        }
        for (int i = 0; i < 5; i++) {
            E.due(x, 1, "undo");
            E.due(x, i % 2, "cell", 0, 0, 1);
        }
    }

    private static void objectsByThemselves() {
        C.about("promises 1 to 37: what one object is told is nothing to another one");
        FogShare x = new FogShare();
        FogShare y = new FogShare();
        C.feed(x, "row ao;holding h 9 50;bank 1 0 7;");
        E.due(y, 0, "count", 8);
        C.feed(y, "row abb;holding p 9 60;holding q 9 70;bank 2 0 8;thins=3;leak 2;");
        E.due(x, 0, "read");
        E.due(y, 0, "count", 0);
        E.due(y, 0, "read");
        E.due(x, 2, "count", 0);
        E.due(x, 5, "draw", 0, 0, 0, 5);
        E.due(y, 0, "cell", 0, 0, 0);
        E.due(y, 0, "undo");
        E.due(y, 55, "lend", 0, 1, 5);
        E.due(x, 1, "count", 9);
        E.due(x, 1, "hold", 0);
        E.due(y, 0, "restore", 0);
        E.due(y, 2, "hours", 2);
        E.due(x, 0, "count", 4);
        E.due(x, 0, "tell", 1, 0, 1, 3);
        E.due(y, 4, "leaks", 0);
        E.due(y, -1, "leaks", 1);
        E.due(x, 1, "sure", 1);
        E.due(x, 6, "then", 1, 0, 1);
        E.due(y, 2, "cell", 2, 0, 0);
        C.fault(1, y, "^#");
        E.due(x, -1, "place");
        E.due(y, 0, "place");
    }
}
