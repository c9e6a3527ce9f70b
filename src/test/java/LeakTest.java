/** Promises 30 to 34: where it leaks, by what was measured. */
public final class LeakTest {
    private static final Checks C = new Checks();
    // A CELL that does not leak has 20 - n behind n hours, one that leaks 20 - 5 n.
    private static final String TWO = "row oo; bank 0 0 20; bank 1 0 20; thins = 1; leak 4;";

    public static void main(String[] args) {
        tell();
        forget();
        leaks();
        sure();
        ask();
        leakAheadOfTheMost();
        nothingByHand();
        gustsAndDays();
        C.end("LeakTest");
    }

    private static void tell() {
        C.about("promise 30");
        FogShare x = C.read(TWO);
        int[][] wrong = {{2, 0, 0, 0}, {-1, 0, 0, 0}, {0, 1, 0, 0}, {0, -1, 0, 0}, {0, 0, -1, 0}, {0, 0, 25, 0}, {0, 0, 0, -1}, {0, 0, 0, 100}};
        for (int[] one : wrong) {
            C.due("no such", x.tell(one[0], one[1], one[2], one[3]), -1);
        }
        C.due("nothing happens", x.count(10), 0);
        for (int i = 0; i < 20; i++) {
            C.due("tell", x.tell(i % 2, 0, 24, 99), i);
        }
        C.due("20 are there", x.tell(0, 0, 0, 20), -1);
        C.due("how many", x.count(10), 20);
        C.due("no thing done", x.undo(), false);
        C.due("no land", new FogShare().tell(0, 0, 0, 0), -1);
    }

    private static void forget() {
        C.about("promise 31");
        FogShare x = C.read(TWO);
        C.due("nothing there", x.forget(), 0);
        x.tell(0, 0, 0, 1);
        x.tell(0, 0, 0, 2);
        C.due("two", x.forget(), 2);
        C.due("count", x.count(10), 0);
        C.due("none left", x.leaks(1), -1);
        C.due("the first one again", x.tell(0, 0, 0, 20), 0);
        C.due("what was forgotten is so no more", x.leaks(1), 3);
    }

    private static void leaks() {
        C.about("promise 32");
        FogShare x = C.read(TWO);
        C.due("leaks(0)", x.leaks(0), 3);
        C.due("leaks(1)", x.leaks(1), -1);
        C.due("leaks(-1)", x.leaks(-1), -1);
        x.tell(0, 0, 1, 19);
        x.tell(1, 0, 2, 10);
        x.tell(1, 0, 0, 5);
        C.due("leaks(0)", x.leaks(0), 3);
        C.due("leaks(1)", x.leaks(1), 2);
        C.due("leaks(2)", x.leaks(2), 1);
        C.due("leaks(3)", x.leaks(3), 0);
        C.due("leaks(4)", x.leaks(4), -1);
        C.due("no land: none leaks", new FogShare().leaks(0), 1);
        x = C.read("row oooooooo; row oooooooo; row oooooooo; row oooooooo; row oooooooo; leak 0;");
        C.due("all of them", x.leaks(0), 41);
        x.tell(7, 4, 24, 0);
        C.due("all of them", x.leaks(1), 41);
        x = C.read("row oo; bank 0 0 20; thins = 1; leak 99;");
        x.tell(0, 0, 1, 0);
        x.tell(0, 0, 24, 0);
        C.due("0 at least", x.leaks(2), 1);
        x = C.read("row oo; bank 0 0 20; bank 1 0 20; thins = 1;");
        x.tell(0, 0, 2, 12);
        C.due("3, if not told", x.leaks(1), 1);
    }

    private static void sure() {
        C.about("promise 33");
        FogShare x = C.read("row oo; row oo; bank 0 1 20; bank 1 1 20; thins = 1; leak 4;");
        C.due("this or that", x.sure(0), -2);
        x.tell(1, 1, 1, 15);
        C.due("this one", x.sure(1), 11);
        C.due("sure(2)", x.sure(2), -1);
        C.due("sure(-1)", x.sure(-1), -1);
        x.tell(1, 1, 2, 15);
        C.due("nothing is left", x.sure(2), -2);
        C.due("no land: none leaks", new FogShare().sure(0), 100);
        x = C.read("row o; bank 0 0 9; leak 1;");
        x.tell(0, 0, 1, 8);
        C.due("none leaks", x.sure(1), 100);
        x.forget();
        x.tell(0, 0, 1, 7);
        C.due("the first CELL", x.sure(1), 0);
    }

    private static void ask() {
        C.about("promise 34");
        FogShare x = C.read(TWO);
        C.due("all alike", x.ask(0, 0), 0);
        C.due("two left at worst by each", x.ask(0, 1), 0);
        x.tell(0, 0, 1, 19);
        x.tell(0, 0, 0, 1);
        C.due("the other one", x.ask(1, 1), 1);
        C.due("the other one", x.ask(1, 24), 0);
        C.due("nothing is left", x.ask(2, 1), -2);
        int[][] wrong = {{-1, 0}, {3, 0}, {0, -1}, {0, 25}, {2, 25}};
        for (int[] one : wrong) {
            C.due("no such", x.ask(one[0], one[1]), -1);
        }
        C.due("no land", new FogShare().ask(0, 24), -2);
        C.due("no land, no such", new FogShare().ask(0, 25), -1);
        // All flows to the right: in hour n the last CELL tells most, as what leaks on its way is gone there too.
        x = C.read("row ooo; row ooo; bank 0 1 40; bank 0 0 40; wind = 1; drifts = fog; thins = 0; leak 5;");
        C.due("behind an hour", x.ask(0, 1), 1);
        C.due("behind two hours", x.ask(0, 2), 2);
        x.tell(2, 0, 2, 40);
        C.due("the row below", x.ask(1, 2), 12);
        x.tell(2, 1, 2, 30);
        C.due("none so", x.ask(2, 2), -2);
    }

    private static void leakAheadOfTheMost() {
        C.about("LEAK: behind THINS, ahead of the 99");
        FogShare x = C.read("row oo; bank 0 0 99; bank 1 0 99; wind = 1; drifts = if across < 1 then 50 else 0; thins = 0; leak 10;");
        x.tell(1, 0, 1, 99);
        C.due("149 less 10 is more than 99", x.leaks(1), 3);
        x = C.read("row o; bank 0 0 20; thins = fog / 2; leak 4;");
        x.tell(0, 0, 1, 6);
        C.due("10 less 4, and not 16 less 8", x.sure(1), 0);
        x.tell(0, 0, 2, 0);
        C.due("3 less 4 is 0", x.sure(2), 0);
        x.forget();
        x.tell(0, 0, 2, 0);
        C.due("5 without a leak", x.leaks(1), 1);
    }

    private static void nothingByHand() {
        C.about("TOLD: nothing by hand");
        FogShare x = C.read("row ab; holding h 9 99; holding g 9 99; bank 0 0 20; bank 1 0 20; thins = whose + 1; leak 4;");
        x.tell(0, 0, 1, 15);
        x.tell(1, 0, 1, 18);
        x.draw(0, 0, 0, 5);
        x.move(1, 0, 0);
        x.move(0, 0, 1);
        x.hours(5);
        C.due("from the text's begin", x.sure(2), 0);
        C.due("ask", x.ask(0, 1), 0);
        x.hold(0);
        x.restore(0);
        C.due("as before", x.leaks(2), 1);
    }

    private static void gustsAndDays() {
        C.about("TOLD: hour by hour as the text tells");
        FogShare x = C.read("row ooooo; bank 0 0 80; wind = 1; drifts = 80; thins = 0; seed 0; gusts 30; leak 7;");
        // LOT 100: 84, 29, 34: the fog comes to rest on the cells 1, 3 and 4, and where it rests it can leak.
        x.tell(4, 0, 3, 73);
        C.due("1, 3 or 4", x.leaks(1), 3);
        C.due("it rested on 3 behind two hours", x.ask(1, 2), 3);
        x.tell(3, 0, 2, 73);
        C.due("1 or 3", x.leaks(2), 2);
        x.tell(1, 0, 1, 80);
        C.due("3", x.sure(3), 3);
        x = C.read("row oo; bank 0 0 99; thins = if day < 1 then 0 else 50; leak 1; wind = 0;");
        x.tell(0, 0, 24, 75);
        C.due("hour 24 of the first day", x.sure(1), 0);
    }
}
