/** The edges of part II: LAWS and their numbers, WIND, an HOUR, GUSTS, GIVES, and promises 12 and 26. */
public final class EdgeHoursTest {
    private static final Checks C = new Checks();
    private static final Edges E = new Edges(C);
    private static final String FULL = "row oooooooo;row oooooooo;row oooooooo;row oooooooo;row oooooooo;";

    public static void main(String[] args) {
        wrapping();
        dividing();
        dividedByZero();
        firstIfThatHolds();
        varsNotTold();
        varsTold();
        hourAndDay();
        windsRest();
        whereFogGoes();
        heldToTheFog();
        noMoreThan99();
        asItLayThen();
        gusts();
        gustsMakeTwoSteps();
        givesHeld();
        givesToThoseThereAre();
        firstHourOfADay();
        givesByHowAllIsThen();
        hours();
        wind();
        C.end("EdgeHoursTest");
    }

    /** An int as a LAW tells it, without one that is past the ends on the way. */
    private static String told(int n) {
        long far = Math.abs((long) n);
        String sign = n < 0 ? "-" : "+";
        return "(0" + sign + far / 1000000 + "*1000*1000" + sign + far / 1000 % 1000 + "*1000" + sign + far % 1000 + ")";
    }

    /** Whether an E is such an int: 3 if it is, 1 if it is less, 2 if it is more, 0 if the LAW is 0. */
    private static int compared(String e, int n) {
        return C.read("wind = if " + e + "<" + told(n) + " then 1 else if " + told(n) + "<" + e + " then 2 else 3;").wind(0);
    }

    private static void is(String e, int n) {
        C.due(e + " is " + n, compared(e, n), 3);
    }

    private static void wrapping() {
        C.about("II (promise 26): ints of 32 bits that wrap");
        int[] ends = {Integer.MAX_VALUE, Integer.MIN_VALUE, Integer.MAX_VALUE - 1, Integer.MIN_VALUE + 1, 0, 1, -1, 65535, 65536, 9999};
        for (int n : ends) {
            is(told(n), n);
            is(told(n) + "+1", n + 1);
            is(told(n) + "-1", n - 1);
            is(told(n) + "*2", n * 2);
            is(told(n) + "*(0-1)", -n);
            is(told(n) + "/(0-1)", n == Integer.MIN_VALUE ? n : -n);
            is("0-" + told(n), -n);
            is(told(n) + "+" + told(n), n + n);
            is(told(n) + "*9999", n * 9999);
        }
        is("9999*9999", 99980001);
        is("9999*9999*9999", 9999 * 9999 * 9999);
        is("9999*9999*9999*9999", 9999 * 9999 * 9999 * 9999);
        is("256*256*256*256", 0);
        is("256*256*256*128", Integer.MIN_VALUE);
        is("256*256*256*128-1", Integer.MAX_VALUE);
        is("0-256*256*256*128", Integer.MIN_VALUE);
        is("256*256*256*128/(0-1)", Integer.MIN_VALUE);
        C.about("II (promise 26): one less than the other, at the ends");
        is("0", 0);
        C.due("MIN is less than MAX", compared(told(Integer.MIN_VALUE), Integer.MAX_VALUE), 1);
        C.due("MAX is more than MIN", compared(told(Integer.MAX_VALUE), Integer.MIN_VALUE), 2);
        C.due("-1 is less than 0", compared("0-1", 0), 1);
        C.due("1 is more than 0", compared("1", 0), 2);
    }

    private static void dividing() {
        C.about("II (promise 26): / rounded towards 0");
        int[][] due = {{7, 2, 3}, {-7, 2, -3}, {7, -2, -3}, {-7, -2, 3}, {1, 2, 0}, {-1, 2, 0}, {-1, -2, 0}, {0, 5, 0}, {0, -5, 0}, {6, 3, 2}, {-6, 3, -2},
            {99, 100, 0}, {100, 100, 1}, {Integer.MIN_VALUE, 2, -1073741824}, {Integer.MIN_VALUE, Integer.MIN_VALUE, 1}, {-9, 10, 0}};
        for (int[] one : due) {
            is(told(one[0]) + "/" + told(one[1]), one[2]);
        }
        C.about("II (promise 26): PARTS and UNITS from left to right, * and / ahead of + and -");
        is("8/4/2", 1);
        is("8/(4/2)", 4);
        is("8-4-2", 2);
        is("8-(4-2)", 6);
        is("2/4*4", 0);
        is("2*4/4", 2);
        is("7-2*3", 1);
        is("2*3-7", -1);
        is("(7-2)*3", 15);
        is("7-6/2-1", 3);
        is("7/2*2+1", 7);
        is("1+2*3+4*5-6/2/3", 26);
        is("1-2+3", 2);
        is("12/3*2", 8);
        is("2*(3+4)*5", 70);
        is("(1+2)*(3+4)-(5-6)", 22);
    }

    private static void dividedByZero() {
        C.about("II (promises 6, 15, 26): a LAW in which something that is looked at is divided by 0 is 0");
        String[] looked = {"1/0", "0/0", "3+1/0", "3-0*(1/0)", "3+0/(1-1)", "1/(hour-hour)", "3+1/day", "3+1/blows", "if 1/0<1 then 3 else 3",
            "if 1<1/0 then 3 else 3", "if 1<2 then 3+1/0 else 3", "if 2<1 then 3 else 3+1/0", "if 2<1 then 3 else if 1/0<1 then 3 else 3",
            "if 2<1 then 3 else if 1<1/0 then 3 else 3", "if 2<1 then 3 else if 1<2 then 1/0 else 3", "1/0+1/0", "(3/0)/0", "3/(0*9)", "9999/0000"};
        for (String law : looked) {
            E.due(C.read("wind=" + law + ";"), 0, "wind", 0);
            FogShare x = C.read("row o;bank 0 0 50;drifts=" + law + ";");
            E.due(x, 0, "cell", 0, 0, 2);
            E.due(C.read("row o;bank 0 0 50;thins=" + law + ";"), 0, "cell", 0, 0, 3);
            String then = law.replace("day", "0");
            E.due(C.read("holding h 9 40;gives=" + then + ";"), 40, "all", 24, 2, 0);
        }
        C.about("II (promise 26): what is not looked at may be divided by 0");
        String[] not = {"if 1<2 then 3 else 1/0", "if 2<1 then 1/0 else 3", "if 2<2 then 1/0 else 3", "if 1<2 then 3 else if 1/0<1 then 1 else 2",
            "if 2<1 then 1/0 else if 1<2 then 3 else 1/0", "if 2<1 then 1/0 else if 3<2 then 1/0 else if 4<3 then 1/0 else if 5<4 then 1/0 else 3",
            "0/5+3", "if 0/5<1 then 3 else 4"};
        for (String law : not) {
            E.due(C.read("wind=" + law + ";"), 3, "wind", 0);
        }
        C.about("II (promises 6 and 14): divided by 0 on one CELL and in one HOUR alone");
        FogShare x = C.read("row oo;row oo;bank 0 0 9;bank 1 0 9;bank 0 1 9;bank 1 1 9;thins=6/across;drifts=8/(down+hour);wind=0;");
        E.due(x, 0, "cell", 0, 0, 3);
        E.due(x, 6, "cell", 1, 1, 3);
        E.due(x, 0, "cell", 1, 0, 2);
        E.due(x, 8, "cell", 0, 1, 2);
        E.due(x, 1, "hours", 1);
        E.due(x, 8, "cell", 0, 0, 2);
        E.due(x, 3, "cell", 1, 1, 0);
        x = C.read("row o;bank 0 0 9;thins=9/fog;");
        int[] due = {9, 8, 7, 6, 5, 4, 2, 0, 0};
        for (int n = 0; n < due.length; n++) {
            E.due(x, due[n], "then", 0, 0, n);
        }
    }

    private static void firstIfThatHolds() {
        C.about("II (promise 26): the E of the first if that holds (one less than the other), else the last one");
        String law = "wind=if hour<3 then 1 else if hour<6 then 2 else if hour<9 then 3 else if hour<12 then 4 else 0;";
        FogShare x = C.read(law);
        for (int n = 0; n < 24; n++) {
            E.due(x, n < 12 ? n / 3 + 1 : 0, "wind", n);
        }
        E.due(C.read("wind=if 1<1 then 1 else 2;"), 2, "wind", 0);
        E.due(C.read("wind=if 1<2 then 1 else 2;"), 1, "wind", 0);
        E.due(C.read("wind=if 2<1 then 1 else 2;"), 2, "wind", 0);
        E.due(C.read("wind=if 1<2 then 1 else if 1<2 then 2 else 3;"), 1, "wind", 0);
        E.due(C.read("wind=if 2<2 then 1 else if 1<2 then 2 else 3;"), 2, "wind", 0);
        E.due(C.read("wind=if 2<2 then 1 else if 2<2 then 2 else 3;"), 3, "wind", 0);
        E.due(C.read("wind=if 1+1<2*2 then 6-2*1 else 2;"), 4, "wind", 0);
        E.due(C.read("wind=if (1)<(2) then (3) else (4);"), 3, "wind", 0);
    }

    private static void varsNotTold() {
        C.about("II (promises 6, 15, 26): a VAR not told for a LAW is 0 in it");
        String text = FULL.replace("oooooooo", "aaaaaaaa") + "holding h 50 400;bank 7 4 99;bank 6 4 99;";
        for (String var : new String[] {"fog", "across", "down", "whose", "store", "ration", "blows"}) {
            FogShare x = C.read(text.replace("aaaaaaaa", "bbbbbbbb") + "holding k 50 400;wind=2+" + var + ";thins=1;drifts=1;");
            E.due(x, 2, "wind", 0);
            E.due(x, 1, "cell", 7, 4, 3);
            E.due(x, 1, "cell", 7, 4, 2);
            E.due(x, 2, "wind", 0);
            E.due(x, 25, "hours", 25);
            for (int n = 0; n <= 72; n += 9) {
                E.due(x, 2, "wind", n);
            }
        }
        for (String var : new String[] {"store", "ration"}) {
            FogShare x = C.read(text + "wind=0;gives=5;thins=1+" + var + ";drifts=2+" + var + ";");
            E.due(x, 1, "cell", 7, 4, 3);
            E.due(x, 2, "cell", 7, 4, 2);
            E.due(x, 24, "hours", 24);
            E.due(x, 1, "cell", 7, 4, 3);
            E.due(x, 2, "cell", 7, 4, 2);
            E.due(x, 75, "cell", 7, 4, 0);
        }
        for (String var : new String[] {"across", "down", "blows", "hour"}) {
            FogShare x = C.read(text + "wind=4;thins=0;gives=5+" + var + ";");
            E.due(x, 405, "all", 24, 2, 0);
            E.due(x, 410, "all", 48, 2, 0);
        }
    }

    private static void varsTold() {
        C.about("II (promise 6): fog, across, down, whose (9 for nobody), blows 0 .. 4, of each CELL");
        String four = "holding p 1 1;holding q 1 1;holding r 1 1;holding s 1 1;";
        for (int wind = 0; wind < 5; wind++) {
            FogShare x = C.read("row abcdoooo;row oooooooo;row oooooooo;row oooooooo;row oooooodb;" + four + "bank 0 0 99;bank 1 0 98;bank 2 0 97;"
                + "bank 3 0 96;bank 7 4 95;bank 6 4 94;bank 5 4 93;wind=" + wind + ";thins=whose*10+blows;drifts=across*10+down;");
            int[][] due = {{0, 0, 0, 0}, {1, 0, 10, 10}, {2, 0, 20, 20}, {3, 0, 30, 30}, {7, 4, 10, 74}, {6, 4, 30, 64}, {5, 4, 90, 54}};
            for (int[] one : due) {
                E.due(x, Math.min(one[2] + wind, x.cell(one[0], one[1], 0)), "cell", one[0], one[1], 3);
                E.due(x, one[3], "cell", one[0], one[1], 2);
            }
        }
        FogShare x = C.read("row oa;holding p 1 1;bank 0 0 99;bank 1 0 99;thins=fog-50;drifts=blows+whose;wind=3;");
        E.due(x, 49, "cell", 0, 0, 3);
        E.due(x, 12, "cell", 0, 0, 2);
        E.due(x, 3, "cell", 1, 0, 2);
        E.due(x, 1, "move", 1, 0, -1);
        E.due(x, 12, "cell", 1, 0, 2);
        E.due(x, 1, "move", 0, 0, 0);
        E.due(x, 3, "cell", 0, 0, 2);
    }

    private static void hourAndDay() {
        C.about("II (promises 6, 12, 37): the hour of the day: its rest by 24; the day: it by 24");
        FogShare x = C.read("row o;bank 0 0 99;thins=hour;drifts=day;wind=hour+day;");
        for (int hour = 0; hour <= 73; hour++) {
            E.due(x, hour, "count", 4);
            E.due(x, hour / 24, "count", 16);
            E.due(x, (hour % 24 + hour / 24) % 5, "wind", 0);
            int fog = E.call(x, "cell", 0, 0, 0);
            E.due(x, Math.min(hour % 24, fog), "cell", 0, 0, 3);
            E.due(x, hour + 1, "hours", 1);
        }
        x = C.read("row o;bank 0 0 99;thins=0;drifts=day;wind=0;");
        for (int i = 1; i <= 100; i++) {
            E.due(x, 48 * i, "hours", 48);
            E.due(x, 2 * i, "count", 16);
            E.due(x, Math.min(99, 2 * i), "cell", 0, 0, 2);
        }
    }

    private static void windsRest() {
        C.about("II (promise 26): WIND, its rest by 5 (below 0: 0)");
        for (int n = -12; n <= 12; n++) {
            E.due(C.read("wind=" + told(n) + ";"), Math.max(0, n % 5), "wind", 0);
        }
        int[] far = {Integer.MAX_VALUE, Integer.MIN_VALUE, 9999, -9999, 99980001, 2147483644, 2147483645, -2147483645};
        for (int n : far) {
            E.due(C.read("wind=" + told(n) + ";"), Math.max(0, n % 5), "wind", 0);
        }
        FogShare x = C.read("row ooo;row ooo;row ooo;bank 1 1 9;thins=0;drifts=9;wind=0-4;");
        E.due(x, 9, "then", 1, 1, 1);
        x = C.read("row ooo;row ooo;row ooo;bank 1 1 9;thins=0;drifts=9;wind=9;");
        E.due(x, 9, "then", 1, 0, 1);
    }

    private static void whereFogGoes() {
        C.about("II (promises 14 and 18): 0 nowhere, 1 X more, 2 Y more, 3 X less, 4 Y less; off the land it is lost");
        int[][] steps = {{0, 0}, {1, 0}, {0, 1}, {-1, 0}, {0, -1}};
        int[][] lands = {{8, 5}, {3, 2}, {1, 1}, {8, 1}, {1, 5}};
        for (int[] land : lands) {
            String rows = ("row " + "o".repeat(land[0]) + ";").repeat(land[1]);
            for (int wind = 0; wind < 5; wind++) {
                for (int x = 0; x < land[0]; x++) {
                    for (int y = 0; y < land[1]; y++) {
                        FogShare fog = C.read(rows + "bank " + x + " " + y + " 9;thins=0;drifts=fog;wind=" + wind + ";");
                        int nextX = x + steps[wind][0];
                        int nextY = y + steps[wind][1];
                        boolean on = nextX >= 0 && nextX < land[0] && nextY >= 0 && nextY < land[1];
                        E.due(fog, on ? 9 : -1, "then", nextX, nextY, 1);
                        E.due(fog, on ? 9 : 0, "all", 1, 0, 0);
                        E.due(fog, on ? 0 : 9, "lost", 1);
                    }
                }
            }
        }
    }

    private static void heldToTheFog() {
        String[] laws = {"0-1", "0-9999", "0", "1", "fog-1", "fog", "fog+1", "9999", "9999*9999*9999"};
        int[] goes = {0, 0, 0, 1, 8, 9, 9, 9, 0};
        for (int i = 0; i < laws.length; i++) {
            int due = i < 8 ? goes[i] : Math.max(0, Math.min(9, 9999 * 9999 * 9999));
            C.about("II (promises 6 and 14): DRIFTS, held to 0 .. the FOG there");
            FogShare x = C.read("row oo;bank 0 0 9;thins=0;wind=1;drifts=" + laws[i] + ";");
            E.due(x, due, "cell", 0, 0, 2);
            E.due(x, 0, "cell", 1, 0, 2);
            E.due(x, 9 - due, "then", 0, 0, 1);
            E.due(x, due, "then", 1, 0, 1);
            C.about("II (promises 6 and 14): THINS, held to 0 .. the FOG there");
            x = C.read("row oo;bank 0 0 9;thins=" + laws[i] + ";");
            E.due(x, due, "cell", 0, 0, 3);
            E.due(x, 0, "cell", 1, 0, 3);
            E.due(x, 9 - due, "then", 0, 0, 1);
            E.due(x, 0, "then", 1, 0, 1);
        }
    }

    private static void noMoreThan99() {
        C.about("II (promise 14): no more than 99 stay on a CELL, behind THINS");
        String two = "row oo;bank 0 0 99;bank 1 0 99;wind=1;drifts=if across<1 then ";
        int[][] due = {{0, 0, 99}, {1, 0, 99}, {1, 1, 99}, {1, 2, 98}, {99, 0, 99}, {99, 98, 99}, {99, 99, 99}, {99, 100, 98}, {50, 49, 99},
            {50, 50, 99}, {50, 51, 98}, {50, 149, 0}, {50, 148, 1}, {50, 150, 0}};
        for (int[] one : due) {
            FogShare x = C.read(two + one[0] + " else 0;thins=if across<1 then 0 else " + one[1] + ";");
            E.due(x, one[2], "then", 1, 0, 1);
            E.due(x, 99 - one[0], "then", 0, 0, 1);
        }
        FogShare x = C.read("row oo;bank 0 0 99;bank 1 0 99;wind=1;drifts=if across<1 then 1 else 0;thins=0;");
        E.due(x, 1, "lost", 1);
        E.due(x, 72, "lost", 72);
    }

    private static void asItLayThen() {
        C.about("II (promise 14): a step, all by how it lay as the step began; then each CELL THINS, by how it lies then");
        for (int wind = 1; wind < 5; wind++) {
            FogShare x = C.read("row ooo;row ooo;row ooo;bank 0 0 10;bank 1 0 20;bank 2 0 30;bank 0 1 40;bank 1 1 50;bank 2 1 60;bank 0 2 70;bank 1 2 80;"
                + "bank 2 2 90;drifts=fog/10;thins=0;wind=" + wind + ";");
            int[] from = {0, -1, -3, 1, 3};
            for (int i = 0; i < 9; i++) {
                boolean edge = wind == 1 && i % 3 == 0 || wind == 3 && i % 3 == 2 || wind == 2 && i < 3 || wind == 4 && i > 5;
                E.due(x, 9 * (i + 1) + (edge ? 0 : i + from[wind] + 1), "then", i % 3, i / 3, 1);
            }
        }
        FogShare x = C.read("row oo;bank 0 0 80;bank 1 0 10;wind=1;drifts=fog/2;thins=fog/3;");
        E.due(x, 27, "then", 0, 0, 1);
        E.due(x, 30, "then", 1, 0, 1);
        E.due(x, 40, "cell", 0, 0, 2);
        E.due(x, 26, "cell", 0, 0, 3);
    }

    /** LOT n of a SEED and a which, told a second time: with longs of which 32 bits are kept. */
    static int lot(int n, long seed, long which) {
        long h = seed & 0xffffffffL;
        for (long it : new long[] {105, which & 0xffffffffL}) {
            h = ((h ^ it) * 1103515245L + 12345) & 0xffffffffL;
            h = h ^ h / 32768;
        }
        return (int) (h / 2 % n);
    }

    private static void gusts() {
        C.about("II (promise 37): a GUST, LOT 100 of the SEED and 4 * the hour, counted on, is less than GUSTS");
        for (int seed : new int[] {0, 1, 2, 7, 105, 4096, 9998, 9999}) {
            for (int hour = 0; hour <= 96; hour += hour < 30 ? 1 : 7) {
                int lot = lot(100, seed, 4L * hour);
                FogShare x = C.read("seed " + seed + ";gusts " + lot + ";");
                FogShare y = C.read("seed " + seed + ";gusts " + (lot + 1) + ";");
                if (hour > 48) {
                    x.hours(48);
                    y.hours(48);
                }
                x.hours(hour > 48 ? hour - 48 : hour);
                y.hours(hour > 48 ? hour - 48 : hour);
                E.due(x, 0, "count", 12);
                E.due(y, 1, "count", 12);
            }
        }
        C.about("II (promise 37): GUSTS 0 never, 100 always; the hour counted on far");
        FogShare never = C.read("seed 77;gusts 0;");
        FogShare always = C.read("seed 77;gusts 100;");
        FogShare half = C.read("seed 77;gusts 50;");
        for (int i = 0; i < 250; i++) {
            E.due(never, 0, "count", 12);
            E.due(always, 1, "count", 12);
            E.due(half, lot(100, 77, 4L * 48 * i) < 50 ? 1 : 0, "count", 12);
            E.due(half, 48 * i + 48, "hours", 48);
            E.due(never, i + 1, "hours", 1);
            E.due(always, i + 1, "hours", 1);
        }
    }

    private static void gustsMakeTwoSteps() {
        C.about("II (promise 14): two steps, one behind the other, if there is a GUST; a step where WIND tells 1 .. 4 alone");
        int[][] steps = {{0, 0}, {1, 0}, {0, 1}, {-1, 0}, {0, -1}};
        for (int seed : new int[] {0, 7, 9999}) {
            int lot = lot(100, seed, 0);
            for (int wind = 0; wind < 5; wind++) {
                for (int more = 0; more < 2; more++) {
                    FogShare x = C.read("row ooooo;row ooooo;row ooooo;row ooooo;row ooooo;bank 2 2 9;drifts=fog;thins=0;seed " + seed + ";gusts "
                        + (lot + more) + ";wind=" + wind + ";");
                    E.due(x, 9, "then", 2 + (1 + more) * steps[wind][0], 2 + (1 + more) * steps[wind][1], 1);
                    E.due(x, 0, "lost", 1);
                }
            }
        }
        C.about("II (promise 14): a GUST is looked at in each HOUR anew");
        for (int seed : new int[] {3, 1234}) {
            FogShare x = C.read("row oooooooo;bank 0 0 9;drifts=fog;thins=0;wind=1;gusts 50;seed " + seed + ";");
            int at = 0;
            for (int n = 0; n < 8 && at < 8; n++) {
                E.due(x, 9, "then", at, 0, n);
                at += lot(100, seed, 4L * n) < 50 ? 2 : 1;
            }
        }
        C.about("II (promise 14): more than 99 lies between two steps, and the second one is by how it lies then");
        FogShare x = C.read("row ooo;bank 0 0 99;bank 1 0 99;wind=1;thins=0;drifts=if across<1 then 99 else fog-100;gusts 100;");
        E.due(x, 98, "then", 2, 0, 1);
        E.due(x, 99, "then", 1, 0, 1);
        E.due(x, 0, "then", 0, 0, 1);
        x = C.read("row oooo;bank 0 0 80;wind=1;thins=0;drifts=fog/2;gusts 100;");
        int[] due = {20, 40, 20, 0};
        for (int i = 0; i < 4; i++) {
            E.due(x, due[i], "then", i, 0, 1);
        }
        x = C.read("row oo;bank 0 0 80;bank 1 0 80;wind=0;thins=0;drifts=fog;gusts 100;");
        E.due(x, 0, "lost", 72);
        E.due(x, 1, "count", 12);
    }

    private static void givesHeld() {
        C.about("II (promise 15): GIVES, held to 0 .. 99");
        String[] laws = {"0-1", "0-9999", "0", "1", "98", "99", "100", "9999", "9999*9999*9999"};
        int[] due = {0, 0, 0, 1, 98, 99, 99, 99, Math.max(0, Math.min(99, 9999 * 9999 * 9999))};
        for (int i = 0; i < laws.length; i++) {
            FogShare x = C.read("holding h 9 40;gives=" + laws[i] + ";");
            E.due(x, 40 + due[i], "all", 24, 2, 0);
            E.due(x, 40 + 3 * due[i], "all", 72, 2, 0);
        }
        C.about("II (promises 7 and 15): STORE, 999 at most");
        int[][] most = {{900, 98, 998}, {900, 99, 999}, {901, 98, 999}, {901, 99, 999}, {999, 0, 999}, {999, 1, 999}, {998, 1, 999}, {998, 0, 998},
            {998, 2, 999}, {0, 99, 99}};
        for (int[] one : most) {
            FogShare x = C.read("holding h 9 " + one[0] + ";gives=" + one[1] + ";");
            E.due(x, one[2], "all", 24, 2, 0);
            E.due(x, 24, "hours", 24);
            E.due(x, one[2], "holding", 0, 1);
        }
    }

    private static void givesToThoseThereAre() {
        C.about("II (promises 15 and 37): GIVES to each HOLDING that there is, to none else");
        String text = "";
        for (int many = 0; many <= 4; many++) {
            FogShare x = C.read(text + "gives=7;");
            E.due(x, 23, "hours", 23);
            E.due(x, 10 * many, "count", 6);
            E.due(x, 24, "hours", 1);
            E.due(x, 17 * many, "count", 6);
            E.due(x, many < 4 ? -1 : 24, "all", 24, 2, many - (many < 4 ? 0 : 1));
            text = text + "holding " + (char) ('p' + many) + " 5 10;";
        }
    }

    private static void firstHourOfADay() {
        C.about("II (promises 12 and 15): with the first hour of a day each HOLDING's STORE is more");
        FogShare x = C.read("row o;holding h 5 10;holding k 9 20;");
        for (int n = 0; n <= 72; n++) {
            E.due(x, 10 + n / 24 * 5, "all", n, 2, 0);
            E.due(x, 20 + n / 24 * 9, "all", n, 2, 1);
        }
        for (int hour = 1; hour <= 50; hour++) {
            E.due(x, hour, "hours", 1);
            E.due(x, 30 + hour / 24 * 14, "count", 6);
        }
        x = C.read("holding h 5 10;");
        E.due(x, 23, "hours", 23);
        E.due(x, 10, "holding", 0, 1);
        E.due(x, 24, "hours", 1);
        E.due(x, 15, "holding", 0, 1);
        E.due(x, 24, "hours", 0);
        E.due(x, 15, "holding", 0, 1);
        E.due(x, 15, "all", 23, 2, 0);
        E.due(x, 20, "all", 24, 2, 0);
        E.due(x, 72, "hours", 48);
        E.due(x, 25, "holding", 0, 1);
    }

    private static void givesByHowAllIsThen() {
        C.about("II (promise 15): GIVES, by how all is then: whose, store, ration, fog on all its CELLS, hour, day");
        String text = "row aab;row oob;holding p 6 100;holding q 7 200;holding r 8 300;bank 0 0 99;bank 1 0 50;bank 2 0 40;bank 2 1 60;bank 0 1 99;gives=";
        String[] laws = {"whose*9+1", "store/50", "ration", "fog/4", "hour+3", "day*9"};
        // Behind 24 HOURS, each thinning by 1: p has 75 and 26, q has 16 and 36; behind 48: 51 and 2, 0 and 12.
        int[][] first = {{1, 10, 19}, {2, 4, 6}, {6, 7, 8}, {25, 13, 0}, {3, 3, 3}, {9, 9, 9}};
        int[][] next = {{1, 10, 19}, {2, 4, 6}, {6, 7, 8}, {13, 3, 0}, {3, 3, 3}, {18, 18, 18}};
        for (int i = 0; i < laws.length; i++) {
            FogShare x = C.read(text + laws[i] + ";");
            for (int h = 0; h < 3; h++) {
                E.due(x, 100 * h + 100 + first[i][h], "all", 24, 2, h);
                E.due(x, 100 * h + 100 + first[i][h] + next[i][h], "all", 48, 2, h);
            }
        }
        C.about("II (promise 15): what is by hand counts for GIVES");
        FogShare x = C.read(text + "fog;");
        E.due(x, 1, "move", 0, 0, 2);
        E.due(x, 375, "all", 24, 2, 2);
        E.due(x, 126, "all", 24, 2, 0);
        E.due(x, 60, "draw", 0, 1, 0, 10);
        E.due(x, 126, "all", 24, 2, 0);
    }

    private static void hours() {
        C.about("promise 12: n HOURS (0 .. 48; 0 is no thing done); NONE, and nothing happens");
        E.range(EdgeFaultTest::lived, -1, 0, 48, 0, "hours", 0);
        FogShare x = EdgeFaultTest.lived();
        E.due(x, 4, "count", 9);
        E.due(x, 25, "hours", 0);
        E.due(x, 4, "count", 9);
        E.due(x, 26, "hours", 1);
        E.due(x, 5, "count", 9);
        E.due(x, 74, "hours", 48);
        E.due(x, 6, "count", 9);
        E.due(x, -1, "hours", 49);
        E.due(x, 74, "count", 4);
        E.due(x, 6, "count", 9);
        E.due(x, 1, "undo");
        E.due(x, 26, "count", 4);
        E.due(x, 1, "undo");
        E.due(x, 25, "count", 4);
        C.about("promise 12: n HOURS at once are as n HOURS one by one, and as what would be");
        FogShare one = EdgeFaultTest.lived();
        FogShare all = EdgeFaultTest.lived();
        int fog = E.call(all, "all", 48, 0, 0);
        for (int i = 0; i < 48; i++) {
            E.due(one, 26 + i, "hours", 1);
        }
        E.due(all, 73, "hours", 48);
        E.due(all, fog, "count", 5);
        for (int i = 0; i < 6; i++) {
            E.due(all, E.call(one, "cell", i % 3, i / 3, 0), "cell", i % 3, i / 3, 0);
            E.due(all, E.call(one, "holding", i % 2, 1), "holding", i % 2, 1);
        }
    }

    private static void wind() {
        C.about("promise 26: what a HOUR's WIND tells in n HOURS (0 .. 72); NONE: no such n");
        E.range(EdgeFaultTest::lived, -1, 0, 72, 0, "wind", 0);
        FogShare x = C.read("wind=day;");
        E.due(x, 0, "wind", 23);
        E.due(x, 1, "wind", 24);
        E.due(x, 2, "wind", 71);
        E.due(x, 3, "wind", 72);
        E.due(x, 48, "hours", 48);
        E.due(x, 2, "wind", 0);
        E.due(x, 0, "wind", 72);
        E.due(x, 4, "wind", 71);
        C.about("promise 26: 0 .. 4");
        x = C.read("wind=hour;");
        for (int n = 0; n <= 72; n++) {
            E.due(x, n % 24 % 5, "wind", n);
        }
    }
}
