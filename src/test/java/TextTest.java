/** Promises 1 to 5: what a new object is, the tape, the grammar and the FAULTS of a text. */
public final class TextTest {
    private static final Checks C = new Checks();

    public static void main(String[] args) {
        newObject();
        feed();
        back();
        readTakesTheText();
        syntax();
        room();
        twiceAndNames();
        wrongNumbers();
        land();
        faultsByPlace();
        faultChangesNothing();
        newTextChangesAll();
        C.end("TextTest");
    }

    private static void newObject() {
        C.about("promise 1");
        FogShare x = new FogShare();
        for (int what = 0; what <= 17; what++) {
            C.due("count(" + what + ")", x.count(what), 0);
        }
        C.due("NONE", FogShare.NONE, -1);
        C.due("place", x.place(), -1);
        C.due("over", x.over(), 0);
        C.due("cell", x.cell(0, 0, 0), -100);
        C.due("holding", x.holding(0, 0), -100000);
        C.due("use", x.use(0, 0), -1);
        C.due("thickest", x.thickest(0, 0), -2);
        C.due("gone", x.gone(1), -2);
        C.due("leaks", x.leaks(0), 1);
        C.due("sure", x.sure(0), 100);
        C.due("ask", x.ask(0, 0), -2);
        C.due("wind", x.wind(72), 0);
        C.due("hold", x.hold(2), true);
        C.due("hours", x.hours(48), 48);
        C.due("restore", x.restore(2), true);
        C.due("count(4)", x.count(4), 0);
    }

    private static void feed() {
        C.about("promise 2");
        FogShare x = new FogShare();
        C.due("feed", x.feed(0x726f7720, 0x6f6f6f6f, 0x6f3b2020, 0x20202020, 0x2020203b), 20);
        C.due("back", x.back(1), 19);
        C.due("read: row ooooo;", x.read(), 0);
        C.due("the highest byte is first", x.count(0), 5);
        C.due("tape", x.count(8), 0);
        for (int i = 1; i <= 100; i++) {
            C.due("feed " + i, x.feed(-1, 0, 1, 2, 3), 20 * i);
        }
        C.due("feed of a full tape", x.feed(0, 0, 0, 0, 0), -1);
        C.due("tape", x.count(8), 2000);
        C.due("back", x.back(19), 1981);
        C.due("feed where 19 are free", x.feed(0, 0, 0, 0, 0), -1);
        C.due("tape", x.count(8), 1981);
        C.due("back", x.back(1), 1980);
        C.due("feed where 20 are free", x.feed(0, 0, 0, 0, 0), 2000);
    }

    private static void back() {
        C.about("promise 3");
        FogShare x = new FogShare();
        C.due("back of nothing", x.back(0), 0);
        C.due("back of too many", x.back(1), -1);
        C.due("feed", x.feed(1, 2, 3, 4, 5), 20);
        C.due("back below 0", x.back(-1), -1);
        C.due("back of too many", x.back(21), -1);
        C.due("back far off", x.back(Integer.MIN_VALUE), -1);
        C.due("back far off", x.back(Integer.MAX_VALUE), -1);
        C.due("tape", x.count(8), 20);
        C.due("back", x.back(0), 20);
        C.due("back", x.back(7), 13);
        C.due("back", x.back(13), 0);
    }

    private static void readTakesTheText() {
        C.about("promise 4");
        FogShare x = C.read("");
        C.due("X", x.count(0), 0);
        x = C.read("row oab;row bao;holding ann 7 8;holding b 9 10;use u b 3 5 12;bank 2 1 4;bank 0 0 6;bank 2 1 5;");
        int[] due = {3, 2, 2, 1, 0, 11, 18, 0, 0, 0, 0, 0, 0, 3, 2, 4, 0, 16};
        for (int what = 0; what < due.length; what++) {
            C.due("count(" + what + ")", x.count(what), due[what]);
        }
        C.due("the last bank for a cell", x.cell(2, 1, 0), 5);
        C.due("whose", x.cell(1, 0, 1), 0);
        x = C.read("\tbank 7 4 99 ;\n\rrow oooooooo; row oooooooo; row oooooooo; row oooooooo; row oooooooo;seed 9999;leak 0;gusts 0;");
        C.due("X", x.count(0), 8);
        C.due("rows", x.count(1), 5);
        C.due("farthest cell", x.cell(7, 4, 0), 99);
        x = C.read("row o; bank 0 0 0050; thins=if fog<50then 1else 2;");
        C.due("tokens without blanks, zeros ahead", x.cell(0, 0, 3), 2);
        x = C.read("row o; bank 0 0 50; thins = 2; thins = 3; gusts 100; gusts 0;");
        C.due("the last law", x.cell(0, 0, 3), 3);
        C.due("the last gusts", x.count(12), 0);
        C.read("holding abcdefgh 0 0; holding rows 99 999; use hour2 rows 0 0 1;".replace("hour2", "hours"));
        x = C.read("row a; row a; holding a 1 1; holding o 1 1;");
        C.due("a row's NAME is no NAME told", x.count(2), 2);
    }

    private static void syntax() {
        C.about("promise 4, SYNTAX");
        String[] texts = {"^x", "row^", "row ^", "row a^", "row ^1;", "row ^fog;", "row ^;", "row a ^a;", "^; row a;",
            "row ^ooooooooo;", "bank ^00000 0 0;", "row o; ^#", "row ^A;", "row^\u0000 o;", "row ^\u000b o;", "^.",
            "^\u00e9", "^1", "row o; ^= 1", "^rowo;", "^rows o;", "holding ^1 1 1;", "holding h 1^;", "holding h 1 ^h;",
            "holding h 1 1 ^1;", "use ^1", "use u ^1", "use u h 1 2^;", "use u h 1 2 3 ^4;", "bank 1 1^;", "bank 1 1 1 ^1;",
            "gusts ^= 1;", "gusts 1 ^1;", "leak ^;", "seed ^s;", "wind ^1;", "wind =^", "wind = ^;", "wind = 1 +^;",
            "wind = 1 ^1;", "wind = (1^;", "wind = 1^);", "wind = ^-1;", "wind = (^);", "wind = 1 ^< 2;", "wind = ^rowx;",
            "wind = ^row;", "wind = 1 + ^if 1 < 2 then 3 else 4;", "wind = if 1 ^then 2 else 3;", "wind = if 1 < 2 ^else 3;",
            "wind = if 1 < 2 then 3^;", "wind = if 1 < 2 ^< 3", "wind = if (1 ^< 2) then 1 else 2;", "wind = if 1 < 2 then ^if 1",
            "wind = if 1 < 2 then 1 else ^", "wind = ^then", "wind = 1 * ^* 2;", "wind = (1 + 2^", "wind = ((1) ^1)",
            "wind = ^12345;", "wind = ^= 1;", "wind = 2 ^(1);", "wind = (1) ^(1);", "wind = ^gusts;"};
        for (String text : texts) {
            C.fault(1, text);
        }
    }

    private static String times(int n, String text) {
        return text.repeat(n);
    }

    private static void room() {
        C.about("promise 4, ROOM");
        String head = "holding h 1 1;";
        String[] texts = {times(5, "row o;") + "^row o;", times(5, "row o;") + "^row", times(4, "holding h 1 1;") + "^holding",
            head + times(6, "use h h 0 0 0;") + "^use h h 0 0 0;", times(12, "bank 9 9 999;") + "^bank 1 1 1;",
            times(12, "bank 9 9 999;") + "row o; ^bank #", "thins=1" + times(198, "+1") + ";^row", "thins=1" + times(198, "+1") + "+^1;",
            "thins=1+(1" + times(197, "+1") + "^)", "wind=" + times(4, "if 1<2 then 3 else ") + "^if 1<2 then 3 else 4;",
            "wind=((((((^(1)))))));", "wind=((((((^(", "wind=1+((2*((((3+^(1+1)))))));", "gives=if ((((((^(1)))))))<1 then 1 else 1;"};
        for (String text : texts) {
            C.fault(2, text);
        }
        C.about("promise 4, all the room there is");
        C.read("thins=1" + times(198, "+1") + ";");
        C.read("thins=1" + times(198, "+1") + "; \n");
        C.read(times(5, "row o;"));
        C.read("wind=" + times(4, "if 1<2 then 3 else ") + "4;drifts=" + times(4, "if 1<2 then 3 else ") + "4;");
        C.read("wind=((((((1))))))+((((((1))))));");
        C.read("row oooooooo;" + times(12, "bank 0 0 1;"));
        C.read(times(20, "wind=1;"));
        C.about("promise 4, SYNTAX ahead of ROOM at one place");
        C.fault(1, "thins=1" + times(198, "+1") + ";^x");
        C.fault(1, "thins=1" + times(198, "+1") + ";^#");
        C.fault(1, "thins=1" + times(198, "+1") + ";^abcdefghi");
        C.fault(1, "thins=1" + times(198, "+1") + "+^)");
        C.fault(1, "thins=1" + times(198, "+1") + "+^");
        C.fault(1, "wind=1^(((((((");
    }

    private static void twiceAndNames() {
        C.about("promise 4, TWICE");
        String head = "holding h 1 2;use u h 0 1 1;";
        String[] twice = {"holding h 1 2;holding ^h 1 2;", head + "use ^h h 0 1 1;", head + "use ^u h 0 1 1;",
            head + "holding ^u 1 1;", "holding h 1 2;holding ^h 100 2; use u g 99 1 1;", "holding a 1 1;holding b 1 1;holding ^a 1 1;"};
        for (String text : twice) {
            C.fault(3, text);
        }
        C.about("promise 4, NAME");
        String[] names = {"use u ^h 0 1 1;holding h 1 1;", "holding h 1 1;use u ^u 0 1 1;", head + "use v ^u 0 1 1;",
            "row o;use u ^o 0 1 1;", "use u ^h 99 99 99;"};
        for (String text : names) {
            C.fault(4, text);
        }
        C.about("promise 4, NAMES that are no fault");
        FogShare x = C.read("holding g 1 1;holding h 2 2;use u h 0 1 1;use v g 0 1 1;");
        C.due("use 0", x.use(0, 0), 1);
        C.due("use 1", x.use(1, 0), 0);
        x = C.read("holding a 1 1;holding aa 1 1;holding aaaaaaaa 1 1;use u aaaaaaaa 0 1 1;");
        C.due("use 0", x.use(0, 0), 2);
    }

    private static void wrongNumbers() {
        C.about("promise 4, WRONG");
        String[] texts = {"holding h ^100 1;", "holding h 99 ^1000;", "holding h ^100 1000;", "gusts ^101;", "leak ^100;",
            "bank ^8 0 1;", "bank 7 ^5 1;", "bank 0 0 ^100;", "bank ^9999 9999 9999;", "row o; bank 0 0 ^100;"};
        for (String text : texts) {
            C.fault(5, text);
        }
        String[] uses = {"^24 23 1", "0 ^24 1", "5 ^4 1", "23 ^22 1", "0 0 ^0", "0 0 ^100", "^99 0 0"};
        for (String use : uses) {
            C.fault(5, "holding h 1 1;use u h " + use + ";");
        }
        C.about("promise 4, numbers that are no fault");
        FogShare x = C.read("holding h 0 0;holding g 99 999;use u h 0 0 1;use v g 23 23 99;use w g 0 23 50;seed 9999;gusts 100;leak 99;"
            + "wind = 9999;");
        C.due("till", x.use(0, 2), 0);
        C.due("from", x.use(1, 1), 23);
        C.due("thick", x.use(1, 3), 99);
        C.due("store", x.holding(1, 1), 999);
        C.due("ration", x.holding(1, 0), 99);
        C.due("wind", x.wind(0), 4);
    }

    private static void land() {
        C.about("promise 4, LAND");
        String[] texts = {"row oo; row ^o;", "row o; row ^oo;", "row ^oe;", "row ^e;", "row ^p;", "row oo;row oo; row ^xx;", "row a;^",
            "row ob; holding h 1 1; ^", "row o; bank 1 0 5;^", "row o; bank 0 1 5;^", "bank 0 0 0;^", "row d;holding a 1 1;holding b 1 1;"
            + "holding c 1 1;^", "bank 0 0 1; row ^oe;"};
        for (String text : texts) {
            C.fault(6, text);
        }
        C.about("promise 4, land that is no fault");
        C.read("row dcba; holding a 1 1;holding b 1 1;holding c 1 1;holding d 1 1;");
        C.read("bank 1 1 5; row oo; row oo;");
    }

    private static void faultsByPlace() {
        C.about("promise 4, the first FAULT");
        C.fault(1, "holding h 1 1; holding h 1 1; row a; bank 9 9 999;^x");
        C.fault(2, "holding h 1 1; holding h 1 1; bank 9 9 999; wind=((((((^(1))))))); x");
        C.fault(1, "wind=^); wind=(((((((1)))))));");
        C.fault(6, "row ^e; holding h 100 1;");
        C.fault(5, "holding h ^100 1; row e;");
        C.fault(5, "row a; row b; bank 0 0 ^100; holding h 1 1; holding h 1 1;");
        C.fault(3, "row a; row b; holding h 1 1; holding ^h 100 1;");
        C.fault(4, "use u ^h 0 1 1; use u h 0 1 1;");
    }

    private static void faultChangesNothing() {
        C.about("promises 4 and 5, a text with a FAULT");
        FogShare x = C.read("row aa; holding h 5 20; bank 0 0 9; thins = 2; gusts 100;");
        C.due("draw", x.draw(0, 0, 0, 3), 12);
        C.due("tell", x.tell(0, 0, 0, 9), 0);
        C.due("hold", x.hold(1), true);
        String[] faults = {"row oo; row oo;row^", "holding a 1 1; holding ^a 1 1;", "row o;wind=1;drifts=2;thins=3;gives=4;gusts ^101;",
            "row o; bank 0 0 5; bank 1 0 5;^"};
        for (int i = 0; i < faults.length; i++) {
            C.fault(i == 0 ? 1 : i == 1 ? 3 : i == 2 ? 5 : 6, x, faults[i]);
            C.due("tape", x.count(8), 0);
        }
        C.due("X", x.count(0), 2);
        C.due("rows", x.count(1), 1);
        C.due("holdings", x.count(2), 1);
        C.due("fog", x.cell(0, 0, 0), 12);
        C.due("thins", x.cell(0, 0, 3), 2);
        C.due("store", x.holding(0, 1), 17);
        C.due("gust", x.count(12), 1);
        C.due("told", x.count(10), 1);
        C.due("slots", x.count(11), 1);
        C.due("wind", x.wind(0), 0);
        C.due("undo", x.undo(), true);
        C.due("fog", x.cell(0, 0, 0), 9);
    }

    private static void newTextChangesAll() {
        C.about("promises 4 and 5, a new text");
        FogShare x = C.read("row ab; holding h 5 20; holding g 1 1; bank 0 0 9; thins = 2; wind = 3; gusts 100; seed 5; leak 9;");
        x.draw(0, 0, 0, 3);
        x.lend(0, 1, 3);
        x.hours(30);
        x.tell(0, 0, 0, 9);
        x.hold(0);
        C.fault(1, x, "^x");
        C.read(x, "row aa; holding h 6 7; holding g 1 2; bank 1 0 40;");
        int[] due = {2, 1, 2, 0, 0, 40, 9, 0, 0, 0, 0, 0, 0, 1, 0, 1, 0, 7};
        for (int what = 0; what < due.length; what++) {
            C.due("count(" + what + ")", x.count(what), due[what]);
        }
        C.due("lent", x.lent(0, 1), 0);
        C.due("drew", x.holding(0, 5), 0);
        C.due("undo", x.undo(), false);
        C.due("restore", x.restore(0), false);
        C.due("laws are those not told: wind", x.wind(0), 0);
        C.due("drifts", x.cell(1, 0, 2), 10);
        C.due("thins", x.cell(1, 0, 3), 1);
        C.due("leak", leakOf(x), 3);
        C.due("hours", x.hours(24), 24);
        C.due("gives", x.holding(0, 1), 13);
    }

    /** How much LEAK is: with it the CELL 1, 0 (40, THINS 1) has 39 - LEAK behind an hour. */
    private static int leakOf(FogShare x) {
        for (int leak = 0; leak < 39; leak++) {
            x.forget();
            x.tell(1, 0, 1, 39 - leak);
            if (leak > 0 && x.sure(1) == 1) {
                return leak;
            }
        }
        return -1;
    }
}
