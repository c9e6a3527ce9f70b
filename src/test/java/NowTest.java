/** LAWS, HOURS, and promises 6 to 13, 21, 26, 27, 35 to 37: what is now, what is done by hand, what is undone and held. */
public final class NowTest {
    private static final Checks C = new Checks();
    private static final String AB = "row aab; row oob; holding ann 10 20; holding bob 5 3; use flax ann 0 3 4; use wool bob 2 23 2;"
        + "bank 0 0 8; bank 2 0 6; bank 2 1 3; bank 0 1 2;";

    public static void main(String[] args) {
        laws();
        varsOfLaws();
        winds();
        hoursGoBy();
        gusts();
        gives();
        cell();
        holding();
        use();
        draw();
        lend();
        move();
        hours();
        undo();
        over();
        hold();
        count();
        C.end("NowTest");
    }

    /** What a LAW tells, if it is 0 .. 99: THINS of a CELL with 99. */
    private static void law(String law, int due) {
        FogShare x = C.read("row oo; row oo; bank 1 1 99; thins = " + law + ";");
        C.due("thins = " + law, x.cell(1, 1, 3), due);
    }

    private static void laws() {
        C.about("LAWS");
        law("2 + 3 * 4", 14);
        law("(2 + 3) * 4", 20);
        law("20 / 3 / 2", 3);
        law("20 - 3 - 2", 15);
        law("20 - (3 - 2)", 19);
        law("2 * 3 + 4 * 5", 26);
        law("2 * (3 + 4) * 5", 70);
        law("60 / (1 + 2 * 2)", 12);
        law("7 / 2 * 2", 6);
        law("1 + 2 * 3 - 8 / 3 + 1", 6);
        law("0 - 5", 0);
        law("500", 99);
        law("10 + (0 - 7) / 2", 7);
        law("7 / 0", 0);
        law("9 + 0 * (1 / 0)", 0);
        law("9 + 0 / 5", 9);
        law("if 1 / 0 < 1 then 5 else 6", 0);
        law("if 1 < 1 / 0 then 5 else 6", 0);
        law("if 1 < 2 then 5 else 1 / 0", 5);
        law("if 2 < 1 then 1 / 0 else 6", 6);
        law("if 2 < 2 then 5 else 6", 6);
        law("if 2 < 3 then 5 else 6", 5);
        law("if 0 - 3 < 0 - 2 then 5 else 6", 5);
        law("if 3 < 2 then 5 else if 2 < 3 then 7 else if 1 < 2 then 8 else 9", 7);
        law("if 3 < 2 then 5 else if 4 < 3 then 7 else if 5 < 2 then 8 else if 6 < 1 then 9 else 10 + 1", 11);
        law("if 1 + 1 < 2 * 2 then 5 - 1 else 6", 4);
        law("if 9999 * 9999 * 9999 < 0 then 1 else 2", intOf(9999L * 9999 * 9999) < 0 ? 1 : 2);
        law("if 8192 * 8192 * 32 < 0 then 5 else 6", 5);
        law("if 8192 * 8192 * 32 / (0 - 1) < 0 then 5 else 6", 5);
        law("if 8192 * 8192 * 32 - 1 < 0 then 5 else 6", 6);
        law("((((((8))))))", 8);
        law("1*(1+1*(1+1*(1+1*(1+1*(1+1*(1+1*2)))))".replace("(1+1*2)", "2") + ")", 7);
    }

    private static int intOf(long n) {
        return (int) n;
    }

    private static void varsOfLaws() {
        C.about("VARS of LAWS");
        law("fog / 9", 11);
        law("across + 10 * down", 11);
        law("whose", 9);
        law("7 + store + ration", 7);
        law("7 + hour + day + blows", 7);
        FogShare x = C.read("row oab; holding h 8 9; holding g 8 9; bank 0 0 99; bank 1 0 99; bank 2 0 99; wind = 2 + hour;"
            + "thins = whose * 10 + blows; drifts = across * 10 + down + blows;");
        int[][] due = {{92, 2}, {2, 12}, {12, 22}};
        for (int i = 0; i < 3; i++) {
            C.due("thins", x.cell(i, 0, 3), due[i][0]);
            C.due("drifts", x.cell(i, 0, 2), due[i][1]);
        }
        x = C.read("row o; bank 0 0 99; wind = if 3 < hour + 3 - fog - across - down - whose - store - ration - blows then day + 1 else 4;");
        C.due("wind at hour 0", x.wind(0), 4);
        C.due("wind at hour 1", x.wind(1), 1);
        C.due("wind at hour 25", x.wind(25), 2);
        C.due("wind at hour 48", x.wind(48), 4);
        x = C.read("row ab; holding h 8 100; holding g 7 200; bank 0 0 5; bank 1 0 6; thins = 0;"
            + "gives = whose * 50 + ration + fog * 2 + store / 100 + across + down + blows + hour; wind = 0;");
        x.hours(24);
        C.due("gives of h", x.holding(0, 1), 100 + 8 + 10 + 1);
        C.due("gives of g", x.holding(1, 1), 200 + 50 + 7 + 12 + 2);
    }

    private static void wind(String law, int due) {
        FogShare x = C.read("wind = " + law + ";");
        C.due("wind = " + law, x.wind(0), due);
    }

    private static void winds() {
        C.about("promise 26");
        wind("4", 4);
        wind("5", 0);
        wind("9999", 4);
        wind("0 - 1", 0);
        wind("0 - 7", 0);
        wind("1 / 0", 0);
        FogShare x = C.read("wind = hour + day * 2;");
        C.due("wind(-1)", x.wind(-1), -1);
        C.due("wind(73)", x.wind(73), -1);
        C.due("wind(7)", x.wind(7), 2);
        C.due("wind(72)", x.wind(72), 1);
        x.hours(24);
        C.due("wind(0)", x.wind(0), 2);
        C.due("wind(72)", x.wind(72), 3);
        int[][] next = {{1, 1}, {2, 1}, {1, 2}, {0, 1}, {1, 0}};
        for (int w = 0; w < 5; w++) {
            x = C.read("row ooo; row ooo; row ooo; bank 1 1 40; drifts = 7; thins = 0; wind = " + w + ";");
            C.due("wind " + w, x.then(next[w][0], next[w][1], 1), w == 0 ? 40 : 7);
            C.due("wind " + w, x.then(1, 1, 1), w == 0 ? 40 : 33);
            C.due("drifts now, wind " + w, x.cell(1, 1, 2), 7);
        }
    }

    private static void hoursGoBy() {
        C.about("AN HOUR");
        FogShare x = C.read("row aob; holding ann 10 20; holding bob 5 3; bank 0 0 40; bank 2 0 8; wind = 1; drifts = 10; thins = 2;");
        int[][] due = {{40, 0, 8}, {28, 8, 0}, {16, 8, 6}, {4, 8, 6}, {0, 2, 6}, {0, 0, 0}};
        for (int hour = 0; hour < due.length; hour++) {
            for (int i = 0; i < 3; i++) {
                C.due("fog at hour " + hour, x.cell(i, 0, 0), due[hour][i]);
            }
            C.due("hours", x.hours(1), hour + 1);
        }
        x = C.read("row oo; bank 0 0 99; bank 1 0 99; wind = 1; drifts = if across < 1 then 50 else 0;"
            + "thins = if 99 < fog then fog - 147 else 3;");
        C.due("thinned ahead of the 99", x.then(1, 0, 1), 99);
        C.due("as it lay then", x.then(0, 0, 1), 46);
        x = C.read("row oo; bank 0 0 99; bank 1 0 99; wind = 1; drifts = if across < 1 then 50 else 0; thins = 60;");
        C.due("149 less 60", x.then(1, 0, 1), 89);
        x = C.read("row ooo; bank 0 0 9; bank 1 0 5; bank 2 0 7; wind = 1; drifts = fog; thins = 0;");
        x.hours(1);
        C.due("all as it lay as the step began", x.cell(1, 0, 0), 9);
        C.due("all as it lay as the step began", x.cell(2, 0, 0), 5);
        x = C.read("row o; bank 0 0 50; wind = hour; drifts = 0; thins = hour + blows * 10 + day;");
        C.due("hour 0", x.then(0, 0, 1), 50);
        C.due("hour 1", x.then(0, 0, 2), 39);
        C.due("hour 2", x.then(0, 0, 3), 17);
    }

    private static void gusts() {
        C.about("GUSTS");
        String text = "row ooooo; bank 0 0 80; wind = 1; drifts = 80; thins = 0; seed 0; gusts ";
        FogShare x = C.read(text + "30;");
        int[] lots = {84, 29, 34, 6};
        int[] at = {0, 1, 3, 4};
        for (int hour = 0; hour < 4; hour++) {
            C.due("fog at hour " + hour, x.cell(at[hour], 0, 0), 80);
            C.due("gust at hour " + hour, x.count(12), lots[hour] < 30 ? 1 : 0);
            x.hours(1);
        }
        C.due("off the land", x.count(5), 0);
        x = C.read(text + "29;");
        C.due("no gust", x.then(2, 0, 2), 80);
        x = C.read(text + "100; seed 9999;");
        C.due("always", x.then(4, 0, 2), 80);
        x = C.read("row oooo; bank 0 0 80; wind = 1; drifts = fog / 2; thins = fog / 10; gusts 100;");
        int[] due = {18, 36, 18, 0};
        for (int i = 0; i < 4; i++) {
            C.due("two steps, one behind the other", x.then(i, 0, 1), due[i]);
        }
        x = C.read("row oo; bank 0 0 80; bank 1 0 9; wind = 0; drifts = fog; thins = 0; gusts 100;");
        C.due("no wind, no step", x.then(0, 0, 1), 80);
        x = C.read("row ooo; bank 0 0 99; bank 1 0 99; wind = 1; thins = 0; drifts = if across < 1 then 99 else fog - 100; gusts 100;");
        C.due("more than 99 between two steps", x.then(2, 0, 1), 98);
        x = C.read("row o; seed 7; gusts 7;");
        int[] seven = {6, 35, 13, 10, 87, 24, 66, 22, 53, 1, 83, 8, 1, 94, 44};
        for (int hour = 0; hour < seven.length; hour++) {
            C.due("seed 7, hour " + hour, x.count(12), seven[hour] < 7 ? 1 : 0);
            x.hours(1);
        }
    }

    private static void gives() {
        C.about("GIVES");
        FogShare x = C.read("row a; holding h 10 20; holding g 0 985; bank 0 0 30;");
        C.due("no store more", x.all(23, 2, 0), 20);
        C.due("its ration more", x.all(24, 2, 0), 30);
        C.due("next day", x.all(47, 2, 0), 30);
        C.due("next day", x.all(72, 2, 0), 50);
        x = C.read("row a; holding h 10 20; holding g 0 985; gives = 100;");
        C.due("99 at most", x.all(24, 2, 0), 119);
        C.due("999 at most", x.all(24, 2, 1), 999);
        x = C.read("holding h 10 20; gives = 0 - 5;");
        C.due("0 at least", x.all(24, 2, 0), 20);
        x = C.read("row ab; row oo; holding h 10 20; holding g 10 20; bank 0 0 50; bank 1 0 9; bank 0 1 99; gives = fog + day * 10 + hour;");
        x.hours(24);
        C.due("by how all is then", x.holding(0, 1), 20 + 26 + 10);
        C.due("by how all is then", x.holding(1, 1), 20 + 10);
        x.hours(24);
        C.due("by how all is then", x.holding(0, 1), 56 + 2 + 20);
    }

    private static void cell() {
        C.about("promise 6");
        FogShare x = C.read(AB + "thins = 5; drifts = fog / 3;");
        int[][] due = {{0, 0, 8, 0, 2, 5}, {1, 0, 0, 0, 0, 0}, {2, 0, 6, 1, 2, 5}, {0, 1, 2, 9, 0, 2}, {2, 1, 3, 1, 1, 3}};
        for (int[] one : due) {
            for (int what = 0; what < 4; what++) {
                C.due("cell " + one[0] + " " + one[1] + " " + what, x.cell(one[0], one[1], what), one[2 + what]);
            }
        }
        int[][] wrong = {{-1, 0, 0}, {3, 0, 0}, {0, -1, 0}, {0, 2, 0}, {0, 0, -1}, {0, 0, 4}, {Integer.MAX_VALUE, 0, 0}, {0, Integer.MIN_VALUE, 0}};
        for (int[] one : wrong) {
            C.due("cell of others", x.cell(one[0], one[1], one[2]), -100);
        }
    }

    private static void holding() {
        C.about("promise 7");
        FogShare x = C.read(AB);
        x.draw(0, 1, 0, 3);
        x.draw(0, 0, 0, 2);
        x.lend(0, 1, 4);
        x.lend(1, 0, 1);
        int[][] due = {{10, 12, 2, 13, 1, 5, 3}, {5, 6, 2, 9, 1, 0, -3}};
        for (int h = 0; h < 2; h++) {
            for (int what = 0; what < 7; what++) {
                C.due("holding " + h + " " + what, x.holding(h, what), due[h][what]);
            }
            C.due("holding " + h + " 7", x.holding(h, 7), -100000);
            C.due("holding " + h + " -1", x.holding(h, -1), -100000);
        }
        C.due("holding 2", x.holding(2, 0), -100000);
        C.due("holding -1", x.holding(-1, 0), -100000);
        x = C.read("row aa; holding h 10 20; bank 0 0 6; bank 1 0 4;");
        C.due("not over", x.holding(0, 4), 0);
        C.due("draw", x.draw(0, 1, 0, 1), 5);
        C.due("over", x.holding(0, 4), 1);
    }

    private static void use() {
        C.about("promise 8");
        FogShare x = C.read(AB);
        int[][] due = {{0, 0, 3, 4, 1}, {1, 2, 23, 2, 0}};
        for (int u = 0; u < 2; u++) {
            for (int what = 0; what < 5; what++) {
                C.due("use " + u + " " + what, x.use(u, what), due[u][what]);
            }
            C.due("use " + u + " 5", x.use(u, 5), -1);
            C.due("use " + u + " -1", x.use(u, -1), -1);
        }
        C.due("use 2", x.use(2, 0), -1);
        C.due("use -1", x.use(-1, 0), -1);
        int[][] hours = {{1, 1, 0}, {1, 1, 1}, {1, 1, 1}, {1, 0, 1}, {19, 0, 1}, {1, 1, 0}};
        for (int[] one : hours) {
            x.hours(one[0]);
            C.due("its hour", x.use(0, 4), one[1]);
            C.due("its hour", x.use(1, 4), one[2]);
        }
    }

    private static void draw() {
        C.about("promise 9");
        FogShare x = C.read(AB);
        C.due("draw", x.draw(0, 1, 0, 5), 5);
        C.due("store", x.holding(0, 1), 15);
        C.due("draw all", x.draw(0, 1, 0, 15), 20);
        C.due("not so much", x.draw(0, 1, 0, 1), -2);
        C.due("not its cell", x.draw(1, 0, 0, 1), -2);
        C.due("nobody's cell", x.draw(1, 0, 1, 1), -2);
        C.due("drew", x.holding(0, 5), 20);
        int[][] wrong = {{2, 0, 0, 1}, {-1, 0, 1, 1}, {0, 3, 0, 1}, {0, 0, 2, 1}, {0, -1, 0, 1}, {0, 0, -1, 1}, {0, 0, 0, 0},
            {0, 0, 0, 100}, {0, 0, 0, -5}, {9, 0, 1, 1}, {1, 0, 0, 100}};
        for (int[] one : wrong) {
            C.due("no such", x.draw(one[0], one[1], one[2], one[3]), -1);
        }
        C.due("two things done", x.count(9), 2);
        x = C.read("row a; holding h 1 999; bank 0 0 30;");
        C.due("more than 99", x.draw(0, 0, 0, 70), -2);
        C.due("99", x.draw(0, 0, 0, 69), 99);
        C.due("store", x.holding(0, 1), 930);
        C.due("more than 99", x.draw(0, 0, 0, 1), -2);
        x.undo();
        C.due("drew", x.holding(0, 5), 0);
    }

    private static void lend() {
        C.about("promises 10 and 27");
        FogShare x = C.read("holding a 1 20; holding b 1 3; holding c 1 990;");
        C.due("lend", x.lend(0, 1, 4), 16);
        C.due("lend", x.lend(1, 0, 7), 0);
        C.due("lend", x.lend(0, 1, 1), 22);
        C.due("lent", x.lent(0, 1), 5);
        C.due("lent", x.lent(1, 0), 7);
        C.due("lent", x.lent(2, 0), 0);
        C.due("netted", x.holding(0, 6), -2);
        C.due("netted", x.holding(1, 6), 2);
        C.due("netted", x.holding(2, 6), 0);
        C.due("not so much", x.lend(0, 1, 23), -2);
        C.due("more than 999", x.lend(0, 2, 10), -2);
        C.due("999", x.lend(0, 2, 9), 13);
        C.due("store", x.holding(2, 1), 999);
        C.due("much", x.lend(2, 1, 997), 2);
        C.due("much", x.lend(2, 1, 999), -2);
        C.due("netted", x.holding(2, 6), 988);
        int[][] wrong = {{0, 0, 1}, {0, 3, 1}, {3, 0, 1}, {-1, 0, 1}, {0, -1, 1}, {0, 1, 0}, {0, 1, 1000}, {0, 1, -1}, {0, 1, Integer.MIN_VALUE}};
        for (int[] one : wrong) {
            C.due("no such", x.lend(one[0], one[1], one[2]), -1);
        }
        C.due("things done", x.count(9), 5);
        int[][] no = {{0, 0}, {0, 3}, {3, 0}, {-1, 1}, {1, -1}};
        for (int[] one : no) {
            C.due("lent, no such", x.lent(one[0], one[1]), -1);
        }
    }

    private static void move() {
        C.about("promise 11");
        FogShare x = C.read(AB);
        C.due("move", x.move(0, 1, 1), true);
        C.due("whose", x.cell(0, 1, 1), 1);
        C.due("cells", x.holding(1, 2), 3);
        C.due("fog", x.holding(1, 3), 11);
        C.due("it is so", x.move(0, 1, 1), false);
        C.due("nobody's", x.move(0, 1, -1), true);
        C.due("it is so", x.move(0, 1, -1), false);
        C.due("whose", x.cell(0, 1, 1), 9);
        int[][] wrong = {{0, 1, 2}, {0, 1, -2}, {0, 1, 9}, {3, 0, 0}, {-1, 0, 0}, {0, 2, 0}, {0, -1, 0}};
        for (int[] one : wrong) {
            C.due("no such", x.move(one[0], one[1], one[2]), false);
        }
        C.due("things done", x.count(9), 2);
    }

    private static void hours() {
        C.about("promise 12");
        FogShare x = C.read(AB);
        C.due("hours(0)", x.hours(0), 0);
        C.due("no thing done", x.count(9), 0);
        C.due("hours(3)", x.hours(3), 3);
        C.due("one thing done", x.count(9), 1);
        C.due("hours(48)", x.hours(48), 51);
        C.due("hours(49)", x.hours(49), -1);
        C.due("hours(-1)", x.hours(-1), -1);
        C.due("the hour", x.count(4), 51);
        C.due("the day", x.count(16), 2);
        C.due("the store", x.holding(0, 1), 40);
        for (int i = 0; i < 100; i++) {
            x.hours(48);
        }
        C.due("the hour", x.hours(0), 4851);
        C.due("the store", x.holding(0, 1), 999);
    }

    private static void undo() {
        C.about("promise 13");
        FogShare x = C.read(AB);
        C.due("undo of nothing", x.undo(), false);
        x.draw(0, 1, 0, 5);
        x.lend(0, 1, 4);
        x.move(0, 1, 1);
        x.hours(30);
        C.due("undo hours", x.undo(), true);
        C.due("the hour", x.count(4), 0);
        C.due("fog", x.cell(0, 0, 0), 8);
        C.due("store", x.holding(0, 1), 11);
        C.due("undo move", x.undo(), true);
        C.due("whose", x.cell(0, 1, 1), 9);
        C.due("undo lend", x.undo(), true);
        C.due("lent", x.lent(0, 1), 0);
        C.due("store", x.holding(1, 1), 3);
        C.due("undo draw", x.undo(), true);
        C.due("fog", x.cell(1, 0, 0), 0);
        C.due("drew", x.holding(0, 5), 0);
        C.due("store", x.holding(0, 1), 20);
        C.due("undo of nothing", x.undo(), false);
        x = C.read("row a; holding h 1 99;");
        for (int i = 1; i <= 35; i++) {
            C.due("draw", x.draw(0, 0, 0, 1), i);
            C.due("that can be undone", x.count(9), Math.min(i, 30));
        }
        for (int i = 0; i < 30; i++) {
            C.due("undo", x.undo(), true);
            C.due("fog", x.cell(0, 0, 0), 34 - i);
        }
        C.due("the 31st", x.undo(), false);
        C.due("fog", x.cell(0, 0, 0), 5);
        x.draw(0, 0, 0, 1);
        x.undo();
        C.due("done and undone", x.count(9), 0);
    }

    private static void over() {
        C.about("promise 21");
        FogShare x = C.read("row abcd; holding a 5 9; holding b 5 9; holding c 0 9; holding d 0 9; bank 0 0 5; bank 1 0 6; bank 3 0 1;");
        C.due("over", x.over(), 10);
        x.draw(0, 0, 0, 1);
        C.due("over", x.over(), 11);
        x.move(2, 0, 0);
        x.draw(2, 2, 0, 1);
        C.due("over", x.over(), 11);
        x.move(1, 0, -1);
        C.due("over", x.over(), 9);
    }

    private static void hold() {
        C.about("promises 35 and 36");
        FogShare x = C.read(AB);
        C.due("hold(-1)", x.hold(-1), false);
        C.due("hold(3)", x.hold(3), false);
        C.due("restore of nothing", x.restore(0), false);
        C.due("restore(-1)", x.restore(-1), false);
        C.due("restore(3)", x.restore(3), false);
        x.draw(0, 0, 0, 1);
        x.lend(0, 1, 2);
        C.due("hold(0)", x.hold(0), true);
        C.due("what can be undone is so still", x.count(9), 2);
        x.move(0, 0, 1);
        x.hours(25);
        x.tell(0, 0, 0, 8);
        C.due("hold(2)", x.hold(2), true);
        C.due("slots", x.count(11), 2);
        C.due("hold(2)", x.hold(2), true);
        C.due("slots", x.count(11), 2);
        C.due("restore(1)", x.restore(1), false);
        C.due("nothing happens", x.count(9), 4);
        x.feed(1, 2, 3, 4, 5);
        C.due("restore(0)", x.restore(0), true);
        C.due("hour", x.count(4), 0);
        C.due("whose", x.cell(0, 0, 1), 0);
        C.due("fog", x.cell(0, 0, 0), 9);
        C.due("store", x.holding(0, 1), 17);
        C.due("lent", x.lent(0, 1), 2);
        C.due("drew", x.holding(0, 5), 1);
        C.due("nothing can be undone", x.undo(), false);
        C.due("what is TOLD stays", x.count(10), 1);
        C.due("the tape stays", x.count(8), 20);
        x.draw(0, 0, 0, 3);
        C.due("restore(0) again", x.restore(0), true);
        C.due("what it holds stays there", x.cell(0, 0, 0), 9);
        C.due("restore(2)", x.restore(2), true);
        C.due("hour", x.count(4), 25);
        C.due("whose", x.cell(0, 0, 1), 1);
    }

    private static void count() {
        C.about("promise 37");
        FogShare x = C.read(AB + "gusts 100;");
        int[] first = {3, 2, 2, 2, 0, 19, 23, 0, 0, 0, 0, 0, 1, 4, 2, 2, 0, 15};
        for (int what = 0; what < first.length; what++) {
            C.due("count(" + what + ")", x.count(what), first[what]);
        }
        x.draw(0, 1, 0, 2);
        x.draw(1, 2, 1, 1);
        x.move(0, 0, -1);
        x.hours(1);
        x.tell(0, 0, 0, 1);
        x.tell(0, 0, 0, 2);
        x.hold(1);
        x.feed(1, 2, 3, 4, 5);
        int[] due = {3, 2, 2, 2, 1, 17, 20, 3, 20, 4, 2, 1, 1, 4, 3, 1, 0, 15};
        for (int what = 0; what < due.length; what++) {
            C.due("count(" + what + ")", x.count(what), due[what]);
        }
        C.due("count(18)", x.count(18), -1);
        C.due("count(-1)", x.count(-1), -1);
        C.due("count(MIN)", x.count(Integer.MIN_VALUE), -1);
    }
}
