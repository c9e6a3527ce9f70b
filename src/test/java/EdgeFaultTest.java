import java.util.List;
import java.util.function.Supplier;

/** The edges of promises 4 and 5: FAULTS 3 to 6, the first one of them, and what a text changes or does not. */
public final class EdgeFaultTest {
    private static final Checks C = new Checks();
    private static final Edges E = new Edges(C);
    private static final String FULL = "row oooooooo;row oooooooo;row oooooooo;row oooooooo;row oooooooo;";
    private static final String[] FAULTS = {"row o;row^", "row o;bank 0 0 1;wind=((((((^(1)))))));", "row o;holding h 1 1;holding ^h 2 2;",
        "row o;holding h 1 1;use u ^g 0 1 1;", "row oo;wind=1;drifts=2;thins=3;gives=4;leak 5;seed 6;gusts ^101;",
        "row oo;holding p 9 9;holding q 9 9;use u p 0 1 1;bank 0 0 9;bank 0 1 9;^"};

    public static void main(String[] args) {
        twice();
        names();
        numbers();
        till();
        rowLetters();
        rowLengths();
        cellsOfNoHolding();
        banksOffTheLand();
        firstByPlace();
        place();
        faultChangesNothing();
        textIsInPlaceOfTheOneAhead();
        lastOnes();
        notTold();
        anyOrder();
        textsOneBehindTheOther();
        longTextsOneBehindTheOther();
        C.end("EdgeFaultTest");
    }

    private static void twice() {
        C.about("Terms (promise 4): TWICE, a NAME told already (of HOLDINGS and USES together)");
        String two = "holding a 1 1;holding b 1 1;use u a 0 1 1;use v b 0 1 1;";
        for (String name : new String[] {"a", "b", "u", "v"}) {
            C.fault(3, two + "holding ^" + name + " 1 1;");
            C.fault(3, two + "use ^" + name + " a 0 1 1;");
            C.fault(3, two + "use ^" + name + " q 0 1 1;");
            C.fault(3, two + "use ^" + name + " a 24 99 0;");
            C.fault(3, two + "holding ^" + name + " 100 1000;");
        }
        C.fault(3, "holding h 1 1;use ^h h 0 1 1;");
        C.fault(3, "holding a 1 1;holding b 1 1;holding c 1 1;holding ^a 1 1;");
        C.fault(3, "holding h 1 1;use a h 0 1 1;use b h 0 1 1;use c h 0 1 1;use d h 0 1 1;use e h 0 1 1;use ^a h 0 1 1;");
        C.fault(3, "holding h 1 1;use a h 0 1 1;use b h 0 1 1;use c h 0 1 1;use d h 0 1 1;use e h 0 1 1;use ^e h 0 1 1;");
        C.fault(3, "holding abcdefgh 1 1;holding ^abcdefgh 1 1;");
        C.read("holding abcdefgh 1 1;holding abcdefgi 1 1;holding bbcdefgh 1 1;holding abcdefg 1 1;");
        C.about("promise 4: a NAME of the text ahead is told no more");
        FogShare x = C.read("holding h 1 1;use u h 0 1 1;");
        C.read(x, "holding u 1 1;use h u 0 1 1;");
        C.fault(4, x, "use u ^h 0 1 1;");
        C.fault(3, x, "holding h 1 1;holding ^h 1 1;");
        C.read(x, "holding h 1 1;use u h 0 1 1;");
    }

    private static void names() {
        C.about("Terms (promise 4): NAME, no such HOLDING told ahead");
        C.fault(4, "use u ^h 0 1 1;");
        C.fault(4, "use u ^u 0 1 1;");
        C.fault(4, "use u ^h 0 1 1;holding h 1 1;");
        C.fault(4, "holding h 1 1;use u h 0 1 1;use v ^u 0 1 1;");
        C.fault(4, "holding h 1 1;use u ^hh 0 1 1;");
        C.fault(4, "holding hh 1 1;use u ^h 0 1 1;");
        C.fault(4, "row o;holding h 1 1;use u ^o 0 1 1;");
        C.fault(4, "use u ^h 24 99 0;");
        C.read("holding h 1 1;use u h 0 1 1;");
        C.fault(4, "row a;use u ^a 0 1 1;holding a 1 1;");
        C.read("holding a 1 1;row a;use u a 0 1 1;");
    }

    /** A number that is told where # stands: each one from low to high is taken, each other one is WRONG at the INT. */
    private static void number(String text, int low, int high) {
        int at = text.indexOf('#');
        for (int n = 0; n <= 9999; n += n < 1010 || n > 9990 ? 1 : 97) {
            boolean fine = n >= low && n <= high;
            String told = text.replace("#", Integer.toString(n));
            if (fine) {
                C.read(told);
            } else {
                C.fault(5, text.substring(0, at) + "^" + told.substring(at));
            }
        }
        for (String zeros : new String[] {"0", "00"}) {
            if (high <= 99) {
                C.read(text.replace("#", zeros + high));
            }
        }
    }

    private static void numbers() {
        C.about("Terms (promise 4): WRONG (at the INT), a number not as told");
        number("holding h # 1;", 0, 99);
        number("holding h 1 #;", 0, 999);
        number("holding h 1 1;use u h # 23 1;", 0, 23);
        number("holding h 1 1;use u h 0 # 1;", 0, 23);
        number("holding h 1 1;use u h 0 23 #;", 1, 99);
        number(FULL + "bank # 0 1;", 0, 7);
        number(FULL + "bank 0 # 1;", 0, 4);
        number(FULL + "bank 0 0 #;", 0, 99);
        number("gusts #;", 0, 100);
        number("leak #;", 0, 99);
        number("seed #;", 0, 9999);
        number("wind = #;", 0, 9999);
        C.fault(5, "bank ^8 5 100;");
        C.fault(5, "bank 7 ^5 100;");
        C.fault(5, "bank 7 4 ^100;");
        C.fault(5, "holding h ^100 1000;");
        C.fault(5, "holding h 1 1;use u h ^24 24 0;");
        C.fault(5, "holding h 1 1;use u h 23 ^24 0;");
        C.fault(5, "holding h 1 1;use u h 23 23 ^0;");
    }

    private static void till() {
        C.about("Terms (promises 4 and 8): TILL which, not less, 0 .. 23");
        for (int from = 0; from < 24; from++) {
            for (int till = 0; till <= 24; till++) {
                if (till < from || till > 23) {
                    C.fault(5, "holding h 1 1;use u h " + from + " ^" + till + " 1;");
                } else {
                    FogShare x = C.read("holding h 1 1;use u h " + from + " " + till + " 1;");
                    E.due(x, from, "use", 0, 1);
                    E.due(x, till, "use", 0, 2);
                }
            }
        }
    }

    private static void rowLetters() {
        C.about("Terms (promise 4): LAND (at it), a ROW with another letter than told");
        String four = "holding p 1 1;holding q 1 1;holding r 1 1;holding s 1 1;";
        for (char letter = 'a'; letter <= 'z'; letter++) {
            for (int at = 0; at < 8; at++) {
                String row = "oooooooo".substring(0, at) + letter + "ooooooo".substring(at);
                if (letter <= 'd' || letter == 'o') {
                    FogShare x = C.read(four + "row oooooooo; row " + row + ";");
                    E.due(x, letter == 'o' ? 9 : letter - 'a', "cell", at, 1, 1);
                } else {
                    C.fault(6, four + "row oooooooo; row ^" + row + ";");
                }
            }
        }
        C.fault(6, "row ^e;");
        C.fault(6, "row o;row o;row o;row o;row ^x;");
    }

    private static void rowLengths() {
        C.about("Terms (promise 4): LAND (at it), a ROW of another length than the first one's");
        for (int first = 1; first <= 8; first++) {
            for (int next = 1; next <= 8; next++) {
                String head = "row " + "o".repeat(first) + ";";
                String row = "o".repeat(next) + ";";
                if (next == first) {
                    FogShare x = C.read(head + "row " + row);
                    E.due(x, first, "count", 0);
                    E.due(x, 2, "count", 1);
                    E.due(x, -100, "cell", first, 1, 0);
                } else {
                    C.fault(6, head + "row ^" + row);
                    C.fault(6, head + head + "row ^" + row + "row " + row);
                    C.fault(6, head + "bank 0 0 1; row ^" + row + head);
                }
            }
        }
    }

    private static void cellsOfNoHolding() {
        C.about("Terms (promise 4): LAND (at the text's end), a CELL of a HOLDING that there is not");
        String[] holdings = {"", "holding p 1 1;", "holding q 1 1;", "holding r 1 1;", "holding s 1 1;"};
        StringBuilder told = new StringBuilder();
        for (int many = 0; many <= 4; many++) {
            told.append(holdings[many]);
            for (char letter = 'a'; letter <= 'd'; letter++) {
                String row = "row o" + letter + ";";
                if (letter - 'a' < many) {
                    C.read(row + told);
                    C.read(told + row);
                } else {
                    C.fault(6, row + told + "^");
                    C.fault(6, told + row + "  \n^");
                    C.fault(6, told + row + row + "wind = 1;^");
                }
            }
        }
        C.fault(6, "row dcbao;holding a 1 1;holding b 1 1;holding c 1 1;^");
        C.fault(6, "row o;row o;row o;row o;row a;^");
    }

    private static void banksOffTheLand() {
        C.about("Terms (promise 4): LAND (at the text's end), a BANK not on the land");
        int[][] lands = {{1, 1}, {8, 1}, {1, 5}, {7, 4}, {8, 5}, {3, 2}};
        for (int[] land : lands) {
            String rows = ("row " + "o".repeat(land[0]) + ";").repeat(land[1]);
            for (int x = 0; x < 8; x++) {
                for (int y = 0; y < 5; y++) {
                    String bank = "bank " + x + " " + y + " 7;";
                    if (x < land[0] && y < land[1]) {
                        E.due(C.read(rows + bank), 7, "cell", x, y, 0);
                        E.due(C.read(bank + rows), 7, "cell", x, y, 0);
                    } else {
                        C.fault(6, rows + bank + "^");
                        C.fault(6, bank + rows + "bank 0 0 7; ^");
                    }
                }
            }
        }
        C.fault(6, "bank 0 0 0;^");
        C.fault(6, "row o;bank 0 1 0;^");
        C.fault(6, "row o;bank 1 0 0;bank 0 0 0;^");
        C.fault(6, "row a;bank 7 4 0;^");
    }

    private static void firstByPlace() {
        C.about("Terms (promise 4): FAULTS, the first by its place");
        String[] faults = {"holding ^h 1 1;", "use u ^g 0 1 1;", "use v h 0 1 ^0;", "row ^ooo;"};
        int[] numbers = {3, 4, 5, 6};
        String head = "row oo;holding h 1 1;";
        for (int i = 0; i < faults.length; i++) {
            for (String next : faults) {
                C.fault(numbers[i], head + faults[i] + next.replace("^", "").replace("use u", "use w").replace("use v", "use z") + "bank 7 4 1;");
            }
        }
        C.about("Terms (promise 4): SYNTAX and ROOM ahead of the others, wherever they are");
        for (String fault : faults) {
            String first = head + fault.replace("^", "");
            C.fault(1, first + "^;");
            C.fault(1, first + "row^");
            C.fault(2, first + "wind=((((((^(1)))))));");
            C.fault(2, first + "row oo;".repeat(fault.startsWith("row") ? 3 : 4) + "^row oo;");
            C.fault(1, first + "^#" + "row oo;".repeat(9));
            C.fault(2, first + "bank 0 0 1;".repeat(12) + "^bank 0 0 1; #");
        }
        C.fault(2, "row e;holding h 100 1000;" + "row e;".repeat(4) + "^row e;");
        C.about("Terms (promise 4): of one place the least");
        C.fault(1, "row o;".repeat(5) + "^#");
        C.fault(1, "wind=((((((1" + "^((1))))))));");
        C.fault(1, "gives=1" + "+1".repeat(198) + ";^if");
        C.fault(6, "row b;bank 7 4 1;^");
    }

    private static void place() {
        C.about("promise 5: the byte of the latest read()'s FAULT; NONE without");
        FogShare x = new FogShare();
        E.due(x, -1, "place");
        C.fault(1, x, "row ^");
        E.due(x, 4, "place");
        C.feed(x, "row o;");
        E.due(x, 4, "place");
        E.due(x, 0, "read");
        E.due(x, -1, "place");
        C.fault(1, x, "^;");
        E.due(x, 0, "place");
        E.due(x, 0, "read");
        E.due(x, -1, "place");
        E.due(x, 0, "count", 0);
        C.fault(6, x, "row o;bank 1 0 9;^");
        E.due(x, 17, "place");
        E.due(x, 0, "hours", 0);
        E.due(x, 48, "hours", 48);
        E.due(x, 1, "undo");
        E.due(x, 17, "place");
    }

    /** An object on which all that can be told, done, lent, held and measured has been. */
    static FogShare lived() {
        FogShare x = C.read("row abo; row bao; holding ann 10 20; holding bob 5 3; use flax ann 0 3 4; use wool bob 2 23 2;"
            + "bank 0 0 8; bank 2 0 6; bank 1 1 98; wind = 1 + hour; drifts = fog / 5; thins = 2; gives = 7; gusts 50; seed 7; leak 2;");
        E.due(x, 10, "draw", 0, 0, 0, 2);
        E.due(x, 15, "lend", 0, 1, 3);
        E.due(x, 1, "hold", 1);
        E.due(x, 1, "move", 1, 0, -1);
        E.due(x, 25, "hours", 25);
        E.due(x, 1, "hold", 2);
        E.due(x, 0, "tell", 0, 0, 1, 5);
        E.due(x, 1, "tell", 1, 1, 2, 90);
        return x;
    }

    private static void same(String what, List<String> got, List<String> want) {
        C.due(what + ": answers", got.size(), want.size());
        for (int i = 0; i < Math.min(got.size(), want.size()); i++) {
            if (!got.get(i).equals(want.get(i))) {
                C.due(what + ": " + got.get(i) + " is not " + want.get(i), 1, 0);
            }
        }
    }

    private static void faultChangesNothing() {
        C.about("Terms (promises 4 and 5): a text with a FAULT changes nothing but the tape");
        List<String> before = Shown.present(lived());
        for (int i = 0; i < FAULTS.length; i++) {
            FogShare x = lived();
            C.fault(i + 1, x, FAULTS[i]);
            E.due(x, 0, "count", 8);
            same(FAULTS[i], Shown.present(x), before);
            List<String> none = Shown.present(new FogShare());
            x = new FogShare();
            C.fault(i + 1, x, FAULTS[i]);
            same(FAULTS[i] + " on a new object", Shown.present(x), none);
        }
        FogShare x = lived();
        for (int i = 0; i < FAULTS.length; i++) {
            C.fault(i + 1, x, FAULTS[i]);
        }
        same("one behind the other", Shown.present(x), before);
    }

    private static void textIsInPlaceOfTheOneAhead() {
        C.about("Terms (promises 4 and 5): a text is in place of the one ahead, as on a new object");
        String[] texts = {"", " \n", "row o;", "row ab;holding p 1 2;holding q 3 4;bank 1 0 50;",
            "row abo; row bao; holding ann 10 20; holding bob 5 3;", "row ooo;row ooo;bank 2 1 99;wind = 3;gusts 30;",
            "holding p 99 999;use u p 0 23 1;seed 9;leak 9;gives=1;"};
        for (String text : texts) {
            Supplier<FogShare> behind = () -> C.read(lived(), text);
            same("'" + text + "' behind another", Shown.all(behind.get()), Shown.all(C.read(text)));
            FogShare x = lived();
            C.fault(5, x, FAULTS[4]);
            C.read(x, text);
            same("'" + text + "' behind one with a FAULT", Shown.all(x), Shown.all(C.read(text)));
        }
        C.about("Terms (promises 4, 7, 13, 27, 31, 36): hour 0, STORES as told, nothing lent, undone, TOLD, held");
        FogShare x = C.read(lived(), "row ab;holding p 1 2;holding q 3 4;bank 1 0 50;bank 0 0 3;");
        E.due(x, 0, "count", 4);
        E.due(x, 50, "cell", 1, 0, 0);
        E.due(x, 2, "holding", 0, 1);
        E.due(x, 4, "holding", 1, 1);
        E.due(x, 0, "holding", 0, 5);
        E.due(x, 0, "holding", 0, 6);
        E.due(x, 0, "lent", 0, 1);
        E.due(x, 0, "count", 9);
        E.due(x, 0, "undo");
        E.due(x, 0, "count", 10);
        E.due(x, 0, "forget");
        E.due(x, -1, "leaks", 1);
        E.due(x, 0, "count", 11);
        for (int slot = 0; slot < 3; slot++) {
            E.due(x, 0, "restore", slot);
        }
    }

    private static void lastOnes() {
        C.about("Terms (promises 4 and 6): BANKS, the last one for a CELL");
        FogShare x = C.read("row oo;bank 0 0 9;bank 1 0 4;bank 0 0 99;bank 0 0 0;");
        E.due(x, 0, "cell", 0, 0, 0);
        E.due(x, 4, "cell", 1, 0, 0);
        E.due(x, 4, "count", 13);
        x = C.read("row o;" + "bank 0 0 0;".repeat(11) + "bank 0 0 1;");
        E.due(x, 1, "cell", 0, 0, 0);
        E.due(x, 12, "count", 13);
        C.about("Terms (promise 4): LAWS, GUSTS, LEAK, SEED, the last one");
        x = C.read("row o;bank 0 0 90;wind=1/0;wind=3;drifts=8;drifts=fog/3;thins=9;thins=if 1<2 then 6 else 7;gusts 100;gusts 0;leak 9;leak 4;");
        E.due(x, 3, "wind", 0);
        E.due(x, 30, "cell", 0, 0, 2);
        E.due(x, 6, "cell", 0, 0, 3);
        E.due(x, 0, "count", 12);
        x = C.read("row o;bank 0 0 90;thins=0;leak 9;leak 4;");
        E.due(x, 0, "tell", 0, 0, 1, 86);
        E.due(x, 0, "sure", 1);
        x = C.read("holding h 7 9;gives=1;gives=5;");
        E.due(x, 14, "all", 24, 2, 0);
        x = C.read("seed 5;seed 7;gusts 7;");
        E.due(x, 1, "count", 12);
        x = C.read("seed 7;seed 5;gusts 78;");
        E.due(x, 0, "count", 12);
    }

    private static void notTold() {
        C.about("Terms (promise 4): WIND (0), DRIFTS (fog / 4), THINS (1), GIVES (ration), GUSTS (0), LEAK (3), SEED (0), if not told");
        FogShare x = C.read("row aa;holding h 13 40;bank 0 0 99;bank 1 0 3;");
        for (int n = 0; n <= 72; n += 8) {
            E.due(x, 0, "wind", n);
        }
        E.due(x, 24, "cell", 0, 0, 2);
        E.due(x, 0, "cell", 1, 0, 2);
        E.due(x, 1, "cell", 0, 0, 3);
        E.due(x, 98, "then", 0, 0, 1);
        E.due(x, 53, "all", 24, 2, 0);
        E.due(x, 79, "all", 72, 2, 0);
        for (int hour = 0; hour < 48; hour++) {
            E.due(x, 0, "count", 12);
            E.due(x, hour + 1, "hours", 1);
        }
        E.due(x, 0, "tell", 0, 0, 1, 95);
        E.due(x, 0, "sure", 1);
        // LOT 100 of SEED 0: 84 in hour 0, 29 in hour 1.
        E.due(C.read("gusts 84;"), 0, "count", 12);
        E.due(C.read("gusts 85;"), 1, "count", 12);
        E.due(C.read("gusts 84;seed 0;"), 0, "count", 12);
    }

    private static void anyOrder() {
        C.about("Terms (promise 4): GUSTS, LEAK, SEED and LAWS, each by itself, in any order");
        String[] tells = {"gusts 79;", "leak 9;", "seed 5;", "wind=1;", "drifts=6;", "thins=2;", "gives=8;", "bank 1 0 40;", "row oo;",
            "holding h 30 50;"};
        for (int first = 0; first < tells.length; first++) {
            for (int way = 1; way < tells.length; way += 2) {
                StringBuilder text = new StringBuilder();
                for (int i = 0; i < tells.length; i++) {
                    text.append(tells[way == 5 ? (first + tells.length - i) % tells.length : (first + way * i) % tells.length]);
                }
                FogShare x = C.read(text.toString());
                // LOT 100 of SEED 5 is 78 in hour 0.
                E.due(x, 1, "count", 12);
                E.due(x, 1, "wind", 0);
                E.due(x, 6, "cell", 1, 0, 2);
                E.due(x, 2, "cell", 1, 0, 3);
                E.due(x, 30, "holding", 0, 0);
                E.due(x, 58, "all", 24, 2, 0);
                // Two steps of 6, then 2 and what leaks: 40 - 12 - 2 - 9.
                E.due(x, 0, "tell", 1, 0, 1, 17);
                E.due(x, 1, "sure", 1);
            }
        }
        E.due(C.read("seed 5;leak 6;gusts 79;"), 1, "count", 12);
        E.due(C.read("seed 5;leak 6;gusts 78;"), 0, "count", 12);
        E.due(C.read("gusts 78;seed 5;leak 99;"), 0, "count", 12);
        E.due(C.read("gusts 85;leak 5;"), 1, "count", 12);
        E.due(C.read("gusts 84;leak 5;"), 0, "count", 12);
    }

    private static void textsOneBehindTheOther() {
        C.about("Terms (promises 4 and 37): a text is in place of all that were ahead, however many, with a FAULT or not");
        String rich = "row abcd;row dcba;holding p 91 901;holding q 92 902;holding r 93 903;holding s 94 904;use u s 1 2 3;use v p 4 5 6;"
            + "bank 3 1 77;bank 0 0 66;bank 3 1 55;wind=3;drifts=8;thins=9;gives=4;gusts 100;leak 77;seed 4321;";
        String[] texts = {"", "row o;", "row ab;holding p 1 2;holding q 3 4;bank 1 0 50;", "holding p 99 999;use u p 0 23 1;seed 9;gives=1;"};
        for (String text : texts) {
            for (int ahead = 1; ahead <= 4; ahead++) {
                FogShare x = new FogShare();
                for (int i = 0; i < ahead; i++) {
                    C.read(x, rich);
                    if (i % 2 == 1) {
                        C.fault(1, x, rich + "^#");
                        C.fault(5, x, rich + "leak ^100;");
                        C.fault(6, x, rich + "row ^abc;");
                    }
                }
                C.read(x, text);
                same("'" + text + "' behind " + ahead, Shown.all(x), Shown.all(C.read(text)));
            }
        }
    }

    private static void longTextsOneBehindTheOther() {
        C.about("Terms (promise 4): LAWS as long as can be, in text behind text");
        FogShare x = new FogShare();
        for (int i = 0; i < 12; i++) {
            C.read(x, "wind=" + i % 5 + "+0".repeat(198) + ";");
            E.due(x, i % 5, "wind", 0);
        }
        C.read(x, "row o;bank 0 0 50;thins=2;");
        E.due(x, 2, "cell", 0, 0, 3);
        E.due(x, 12, "cell", 0, 0, 2);
        E.due(x, 0, "wind", 0);
    }
}
