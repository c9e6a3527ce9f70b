/** The edges of the Terms and of promises 1 to 3: the tape, bytes, TOKENS, what a text goes on with, and the room there is. */
public final class EdgeTextTest {
    private static final Checks C = new Checks();
    private static final Edges E = new Edges(C);
    private static final String[] TELLS = {"row", "holding", "use", "bank", "wind", "drifts", "thins", "gives", "gusts", "leak", "seed"};
    private static final String[] VARS = {"fog", "hour", "day", "across", "down", "whose", "store", "ration", "blows"};
    private static final String[] OTHERS = {"if", "then", "else", "n", "7", ";", "=", "+", "-", "*", "/", "<", "(", ")", "abcdefghi",
        "12345", "#", "A", ".", "\u00e9"};
    private static final String UNIT = "7 ( fog hour day across down whose store ration blows";
    private static final String TELL = "row holding use bank wind drifts thins gives gusts leak seed";

    public static void main(String[] args) {
        newObject();
        feed();
        back();
        tapeAsLongAsCanBe();
        everyByte();
        names();
        ints();
        longestTokens();
        nothingTold();
        goesOn();
        mostOfASort();
        allPlacesTaken();
        mostTokens();
        mostIfs();
        mostBrackets();
        C.end("EdgeTextTest");
    }

    private static String times(int n, String text) {
        return text.repeat(n);
    }

    /** Feeds twenty bytes. */
    private static int feedTwenty(FogShare x, String twenty) {
        int[] words = new int[5];
        for (int i = 0; i < 20; i++) {
            words[i / 4] = words[i / 4] << 8 | twenty.charAt(i);
        }
        return E.call(x, "feed", words);
    }

    private static void newObject() {
        C.about("promise 1: no land, and nothing else either");
        for (int what = 0; what <= 17; what++) {
            E.due(new FogShare(), 0, "count", what);
        }
        for (int n = 0; n <= 72; n++) {
            E.due(new FogShare(), 0, "wind", n);
        }
        FogShare x = new FogShare();
        E.due(x, -1, "place");
        E.due(x, 0, "over");
        E.due(x, -100, "cell", 0, 0, 0);
        E.due(x, -100000, "holding", 0, 0);
        E.due(x, -1, "use", 0, 0);
        E.due(x, -1, "lent", 0, 1);
        E.due(x, 0, "undo");
        E.due(x, 0, "forget");
        E.due(x, 1, "leaks", 0);
        E.due(x, -1, "leaks", 1);
        E.due(x, 100, "sure", 0);
        E.due(x, -1, "sure", 1);
        E.due(x, -2, "ask", 0, 24);
        E.due(x, -1, "ask", 1, 0);
        E.due(x, -2, "gone", 0);
        E.due(x, -2, "gone", 1);
        E.due(x, -2, "thickest", 72, 0);
        E.due(x, 0, "all", 72, 0, 0);
        E.due(x, 0, "lost", 72);
        for (int slot = 0; slot < 3; slot++) {
            E.due(x, 0, "restore", slot);
        }
        E.due(x, 0, "read");
        E.due(x, -1, "place");
        E.due(x, 0, "count", 0);
        E.due(new FogShare(), 20, "feed", 0, 0, 0, 0, 0);
        E.due(new FogShare(), 0, "back", 0);
        E.due(new FogShare(), -1, "back", 1);
    }

    private static void feed() {
        C.about("promise 2: twenty bytes, the highest of a first");
        for (int i = 0; i < 20; i++) {
            FogShare x = new FogShare();
            C.due("feed", feedTwenty(x, times(i, " ") + "#" + times(19 - i, " ")), 20);
            E.due(x, 1, "read");
            E.due(x, i, "place");
        }
        FogShare x = new FogShare();
        E.due(x, 20, "feed", 0x20202020, 0x20202020, 0x20202020, 0x20202020, 0x202020ff);
        E.due(x, 1, "read");
        E.due(x, 19, "place");
        E.due(x, 20, "feed", 0xff202020, 0x20202020, 0x20202020, 0x20202020, 0x20202020);
        E.due(x, 1, "read");
        E.due(x, 0, "place");
        C.about("promise 2: behind the tape");
        x = new FogShare();
        C.due("feed", feedTwenty(x, "row oo;             "), 20);
        C.due("feed", feedTwenty(x, "row o1;             "), 40);
        E.due(x, 1, "read");
        E.due(x, 25, "place");
        C.about("promise 2: NONE, and nothing comes, if it would have more than 2,000");
        for (int less = 0; less <= 20; less++) {
            x = full(less);
            E.due(x, less == 20 ? 2000 : -1, "feed", -1, -1, -1, -1, -1);
            E.due(x, less == 20 ? 2000 : 2000 - less, "count", 8);
            E.due(x, less == 20 ? 1 : 0, "read");
            E.due(x, less == 20 ? 1980 : -1, "place");
            E.due(x, 20, "feed", -1, -1, -1, -1, -1);
        }
    }

    /** Blanks up to the 2,000 that are most, but for so many. */
    private static FogShare full(int less) {
        FogShare x = new FogShare();
        for (int i = 1; i <= 100; i++) {
            C.due("feed", feedTwenty(x, times(20, " ")), 20 * i);
        }
        E.due(x, 2000 - less, "back", less);
        return x;
    }

    private static FogShare tape(String text) {
        FogShare x = new FogShare();
        C.feed(x, text);
        return x;
    }

    private static void back() {
        C.about("promise 3: the last n bytes go; NONE, and nothing goes");
        for (int bytes : new int[] {0, 1, 19, 20, 21, 400}) {
            String text = times(bytes, "x");
            for (int n : new int[] {0, 1, bytes - 1, bytes}) {
                if (n >= 0 && n <= bytes) {
                    FogShare x = tape(text);
                    E.due(x, bytes - n, "back", n);
                    E.due(x, bytes - n, "count", 8);
                }
            }
            for (int n : new int[] {bytes + 1, bytes + 2000, -1, Integer.MIN_VALUE, Integer.MAX_VALUE}) {
                E.refused(() -> tape(text), -1, "back", n);
            }
        }
        FogShare x = tape("row o;row oo;");
        E.due(x, 6, "back", 7);
        E.due(x, 0, "read");
        E.due(x, 1, "count", 1);
        E.due(x, -1, "back", 1);
        x = tape("row o;#");
        E.due(x, 6, "back", 1);
        C.due("feed where it ends", feedTwenty(x, "row o;              "), 26);
        E.due(x, 0, "read");
        E.due(x, 2, "count", 1);
    }

    private static void tapeAsLongAsCanBe() {
        C.about("Terms (promise 4): a TEXT has 2,000 bytes at most");
        C.due("rows", C.read(times(1994, " ") + "row o;").count(1), 1);
        C.due("rows", C.read("row o;" + times(1994, "\n")).count(1), 1);
        C.read(times(2000, " "));
        C.fault(1, times(1999, " ") + "^#");
        C.fault(1, times(1994, " ") + "row o ^");
        C.fault(6, times(1994, " ") + "row a;^");
        C.fault(1, "^" + times(2000, "a"));
        C.fault(1, "^" + times(2000, "1"));
        C.fault(1, "row o;^" + times(1994, ";"));
    }

    private static boolean isBlank(int sign) {
        return sign == 9 || sign == 10 || sign == 13 || sign == 32;
    }

    private static void everyByte() {
        C.about("Terms (promise 4): blanks (9, 10, 13, 32); all else is no TOKEN");
        for (int sign = 0; sign < 256; sign++) {
            char b = (char) sign;
            FogShare x = tape("row o;" + b + "row o;");
            E.due(x, isBlank(sign) ? 0 : 1, "read");
            E.due(x, isBlank(sign) ? -1 : 6, "place");
            x = tape("gusts 1" + b + ";");
            boolean digit = sign >= '0' && sign <= '9';
            E.due(x, digit || isBlank(sign) ? 0 : 1, "read");
            E.due(x, digit || isBlank(sign) ? -1 : sign == ';' ? 8 : 7, "place");
            x = tape("row " + b + ";");
            boolean own = sign >= 'a' && sign <= 'd';
            boolean letter = sign >= 'a' && sign <= 'z';
            E.due(x, sign == 'o' ? 0 : letter ? 6 : 1, "read");
            E.due(x, sign == 'o' ? -1 : own ? 6 : isBlank(sign) ? 5 : 4, "place");
        }
    }

    private static void names() {
        C.about("Terms (promise 4): NAMES, 8 letters at most; a longer one is no TOKEN");
        for (int letters = 1; letters <= 8; letters++) {
            FogShare x = C.read("holding " + times(letters, "z") + " 1 1;row " + times(letters, "o") + ";");
            E.due(x, 1, "count", 2);
            E.due(x, letters, "count", 0);
        }
        C.fault(1, "holding ^zzzzzzzzz 1 1;");
        C.fault(1, "row ^ooooooooo;");
        C.fault(1, "use u ^abcdefghi 1 1 1;");
        C.fault(1, "holding ^" + times(16, "h") + " 1 1;");
        C.fault(1, "^rowrowrow o;");
        C.read("holding rowrowro 1 1; use ifthenel rowrowro 0 0 1;");
        C.about("Terms (promise 4): none of the words in quotes is a NAME");
        String words = TELL + " if then else fog hour day across down whose store ration blows";
        for (String word : words.split(" ")) {
            C.fault(1, "holding ^" + word + " 1 1;");
            C.fault(1, "row ^" + word + ";");
            C.fault(1, "holding h 1 1; use ^" + word + " h 1 1 1;");
            C.fault(1, "holding h 1 1; use u ^" + word + " 1 1 1;");
            C.read("holding " + word.substring(1) + " 1 1; holding " + word.substring(0, word.length() - 1) + "q 1 1; holding x"
                + word + " 1 1; holding " + word + "s 1 1;");
        }
        C.about("promise 4: NAMES are told apart by each of their letters");
        FogShare x = C.read("holding a 1 1;holding aa 1 2;holding aaaaaaab 1 3;holding aaaaaaaa 1 4;use z aaaaaaaa 0 1 1;use zz aaaaaaab 0 1 1;"
            + "use zzzzzzzz aa 0 1 1;use zzzzzzzy a 0 1 1;use zazzzzzz a 0 1 1; use b a 0 1 1;");
        int[] due = {3, 2, 1, 0, 0, 0};
        for (int use = 0; use < 6; use++) {
            E.due(x, due[use], "use", use, 0);
        }
    }

    private static void ints() {
        C.about("Terms (promise 4): INTS, 1 to 4 digits; a longer one is no TOKEN");
        for (String zero : new String[] {"0", "00", "000", "0000"}) {
            E.due(C.read("gusts " + zero + ";"), 0, "count", 12);
            E.due(C.read("wind = " + zero + ";"), 0, "wind", 0);
        }
        E.due(C.read("gusts 0100;"), 1, "count", 12);
        C.read("seed 9999;");
        C.fault(1, "seed ^10000;");
        C.fault(1, "seed ^00000;");
        C.fault(1, "seed ^" + times(30, "9") + ";");
        C.fault(1, "wind = ^10000;");
        C.fault(1, "wind = 1 + ^00001;");
        E.due(C.read("wind = 9999;"), 4, "wind", 0);
        E.due(C.read("wind = 0004;"), 4, "wind", 0);
    }

    private static void longestTokens() {
        C.about("Terms (promise 4): the longest that can be, with blanks between or not");
        C.fault(1, "^rowo;");
        C.fault(1, "^rowoo ;");
        C.fault(1, "holding h 11^;");
        C.fault(1, "gusts 1 ^0;");
        C.fault(1, "wind = ^12345;");
        C.fault(1, "wind = ^ifif;");
        C.fault(1, "wind=if 1<2then 1 ^elseif 1<2 then 3 else 4;");
        C.fault(1, "wind = ^foghour;");
        FogShare x = C.read("row oo;row oo;holding h1 1;use u h0 0 1;bank0 0 5;bank 1 1 6;wind=if 1<2then 3else 4;drifts=2*fog/3;thins=(1)+1;gusts1;");
        E.due(x, 5, "cell", 0, 0, 0);
        E.due(x, 6, "cell", 1, 1, 0);
        E.due(x, 3, "wind", 0);
        E.due(x, 4, "cell", 1, 1, 2);
        E.due(x, 2, "cell", 0, 0, 3);
        x = C.read("\nrow\too\r;\n\n\tholding\rh\n1\t1\r;use u\nh\r0\t0 1\t;bank\n0\r0\t5\n;wind\t=\nif\r1\t<\n2\rthen\t3\nelse\r4\t;");
        E.due(x, 5, "cell", 0, 0, 0);
        E.due(x, 3, "wind", 0);
    }

    private static void nothingTold() {
        C.about("Terms (promises 4 and 5): {TELL}, none at all");
        String[] texts = {"", " ", "\t", "\n", "\r", "\r\n\t  ", times(20, " "), times(21, "\n")};
        for (String text : texts) {
            FogShare x = C.read(text);
            E.due(x, 0, "count", 0);
            E.due(x, 0, "count", 2);
            E.due(x, 0, "count", 8);
            E.due(x, -2, "thickest", 0, 0);
        }
    }

    /** Behind a text that begins so only some TOKENS go on: each other one is a SYNTAX fault at it, and so is the text's end. */
    private static void goesOn(String text, String allowed) {
        String all = TELL + " " + String.join(" ", VARS) + " " + String.join(" ", OTHERS);
        String allowedAll = " " + allowed + " ";
        boolean ends = allowed.startsWith("row");
        for (String token : all.split(" ")) {
            boolean fine = allowedAll.contains(" " + token + " ");
            boolean whole = fine && token.equals(";");
            if (!whole) {
                C.fault(1, fine ? text + token + "^" : text + "^" + token + " ; ;");
            }
        }
        if (!ends) {
            C.fault(1, text + "^");
        }
    }

    private static void goesOn() {
        C.about("Terms (promise 4): SYNTAX, a TOKEN, or what is none, with which no text goes on");
        goesOn("", TELL);
        goesOn(" \n", TELL);
        goesOn("row o; ", TELL);
        goesOn("wind = 1; ", TELL);
        goesOn("row ", "n");
        goesOn("row o ", ";");
        goesOn("holding ", "n");
        goesOn("holding h ", "7");
        goesOn("holding h 1 ", "7");
        goesOn("holding h 1 1 ", ";");
        goesOn("use ", "n");
        goesOn("use u ", "n");
        goesOn("use u h ", "7");
        goesOn("use u h 1 ", "7");
        goesOn("use u h 1 1 ", "7");
        goesOn("use u h 1 1 1 ", ";");
        goesOn("bank ", "7");
        goesOn("bank 1 ", "7");
        goesOn("bank 1 1 ", "7");
        goesOn("bank 1 1 1 ", ";");
        for (String sort : new String[] {"gusts ", "leak ", "seed "}) {
            goesOn(sort, "7");
            goesOn(sort + "1 ", ";");
        }
        for (String law : new String[] {"wind ", "drifts ", "thins ", "gives "}) {
            goesOnInALaw(law);
        }
    }

    private static void goesOnInALaw(String law) {
        goesOn(law, "=");
        goesOn(law + "= ", "if " + UNIT);
        goesOn(law + "= 1 ", "+ - * / ;");
        goesOn(law + "= ( ", UNIT);
        goesOn(law + "= ( 1 ", "+ - * / )");
        goesOn(law + "= ( 1 ) ", "+ - * / ;");
        goesOn(law + "= ( ( 1 ) ", "+ - * / )");
        goesOn(law + "= ( 1 * ( 1 ) ", "+ - * / )");
        for (String sign : new String[] {"+ ", "- ", "* ", "/ "}) {
            goesOn(law + "= 1 " + sign, UNIT);
            goesOn(law + "= ( 1 " + sign, UNIT);
            goesOn(law + "= 1 " + sign + "1 ", "+ - * / ;");
        }
        for (String var : VARS) {
            goesOn(law + "= " + var + " ", "+ - * / ;");
        }
        goesOn(law + "= if ", UNIT);
        goesOn(law + "= if 1 ", "+ - * / <");
        goesOn(law + "= if ( 1 ", "+ - * / )");
        goesOn(law + "= if 1 < ", UNIT);
        goesOn(law + "= if 1 < 1 ", "+ - * / then");
        goesOn(law + "= if 1 < ( 1 ", "+ - * / )");
        goesOn(law + "= if 1 < 1 then ", UNIT);
        goesOn(law + "= if 1 < 1 then 1 ", "+ - * / else");
        goesOn(law + "= if 1 < 1 then ( 1 ", "+ - * / )");
        goesOn(law + "= if 1 < 1 then 1 else ", "if " + UNIT);
        goesOn(law + "= if 1 < 1 then 1 else 1 ", "+ - * / ;");
        goesOn(law + "= if 1 < 1 then 1 else ( 1 ", "+ - * / )");
        goesOn(law + "= if 1 < 1 then 1 else if 1 ", "+ - * / <");
        goesOn(law + "= if 1 < 1 then 1 else if 1 < 1 then 1 else ", "if " + UNIT);
    }

    private static void mostOfASort(String head, String tell, String word, int most) {
        C.read(head + times(most, tell));
        C.fault(2, head + times(most, tell) + "^" + tell);
        C.fault(2, head + times(most, tell) + "^" + word);
        C.fault(2, head + times(most, tell) + "^" + word + " #");
        C.fault(2, head + times(most, tell) + "gusts 1;^" + tell + tell + "#");
        C.fault(1, head + times(most, tell) + "^;" + tell);
        C.fault(1, head + times(most - 1, tell) + word + "^");
    }

    private static void mostOfASort() {
        C.about("Terms (promise 4): ROOM, one more of a sort than told (at its first TOKEN)");
        mostOfASort("", "row o;", "row", 5);
        C.fault(2, times(4, "holding h 1 1;") + "^holding h 1 1;");
        C.fault(2, "holding a 1 1;holding b 1 1;holding c 1 1;holding d 1 1;^holding e 1 1;");
        C.fault(2, times(4, "holding h 1 1;") + "^holding");
        C.read("holding a 1 1;holding b 1 1;holding c 1 1;holding d 1 1;");
        C.read("holding h 1 1;use a h 0 0 1;use b h 0 0 1;use c h 0 0 1;use d h 0 0 1;use e h 0 0 1;use f h 0 0 1;");
        C.fault(2, "holding h 1 1;use a h 0 0 1;use b h 0 0 1;use c h 0 0 1;use d h 0 0 1;use e h 0 0 1;use f h 0 0 1;^use g h 0 0 1;");
        C.fault(2, times(6, "use a h 0 0 1;") + "^use");
        mostOfASort("row oo;", "bank 1 0 9;", "bank", 12);
        C.about("Terms (promise 4): of LAWS, GUSTS, LEAK and SEED there is room for any number: the last one");
        FogShare x = C.read("row o;bank 0 0 90;" + times(15, "wind=1;") + "wind=2;" + times(15, "drifts=1;") + "drifts=3;"
            + times(15, "thins=1;") + "thins=4;" + times(15, "gives=1;") + "gives=5;" + times(15, "gusts 0;") + "gusts 100;"
            + "leak 1;leak 2;seed 1;seed 2;");
        E.due(x, 2, "wind", 0);
        E.due(x, 3, "cell", 0, 0, 2);
        E.due(x, 4, "cell", 0, 0, 3);
        E.due(x, 1, "count", 12);
    }

    private static void allPlacesTaken() {
        C.about("Terms (promises 4 to 8): all places taken, the last ones hold what is told");
        StringBuilder text = new StringBuilder(times(4, "row oooooooo;") + "row abcdooob;");
        for (int i = 0; i < 4; i++) {
            text.append("holding ").append((char) ('p' + i)).append(' ').append(96 + i).append(' ').append(996 + i).append(';');
        }
        for (int i = 0; i < 6; i++) {
            text.append("use ").append((char) ('u' + i)).append(' ').append((char) ('p' + i % 4)).append(' ').append(i).append(" 23 ")
                .append(94 + i).append(';');
        }
        for (int i = 0; i < 12; i++) {
            text.append("bank ").append(7 - i % 8).append(' ').append(i < 8 ? 4 : 0).append(' ').append(88 + i).append(';');
        }
        FogShare x = C.read(text.toString());
        int[] due = {8, 5, 4, 6, 0, 88 * 12 + 66, 996 * 4 + 6, 0, 0, 0, 0, 0, 0, 12, 35, 28, 0, 96 * 4 + 6};
        for (int what = 0; what < due.length; what++) {
            E.due(x, due[what], "count", what);
        }
        E.due(x, 2, "holding", 1, 2);
        for (int i = 0; i < 4; i++) {
            E.due(x, 96 + i, "holding", i, 0);
            E.due(x, 996 + i, "holding", i, 1);
            E.due(x, i, "cell", i, 4, 1);
            E.due(x, 95 - i, "cell", i, 4, 0);
            E.due(x, 99 - i, "cell", 4 + i, 0, 0);
            E.due(x, 91 - i, "cell", 4 + i, 4, 0);
        }
        E.due(x, 1, "cell", 7, 4, 1);
        for (int i = 0; i < 6; i++) {
            E.due(x, i % 4, "use", i, 0);
            E.due(x, i, "use", i, 1);
            E.due(x, 23, "use", i, 2);
            E.due(x, 94 + i, "use", i, 3);
        }
        E.due(x, -1, "use", 6, 0);
        E.due(x, -100000, "holding", 4, 0);
        E.due(x, -100, "cell", 8, 4, 0);
        E.due(x, -100, "cell", 7, 5, 0);
    }

    private static void mostTokens() {
        C.about("Terms (promise 4): ROOM, a 401st TOKEN");
        String whole = "gives=1" + times(198, "+1") + ";";
        String open = "gives=1" + times(198, "+1") + "+";
        String shut = "gives=(1" + times(197, "+1") + ")";
        C.read(whole);
        C.read(whole + times(500, " "));
        C.fault(2, whole + "^row o;");
        for (String token : TELL.split(" ")) {
            C.fault(2, whole + "^" + token);
            C.fault(2, whole + " \n^" + token + " # ;");
        }
        for (String token : ("if then else 7 n ; = + - * / < ( ) # abcdefghi 12345 " + String.join(" ", VARS)).split(" ")) {
            C.fault(1, whole + "^" + token);
        }
        for (String token : UNIT.split(" ")) {
            C.fault(2, open + "^" + token);
        }
        for (String token : (TELL + " if then else n ; = + - * / < ) # abcdefghi 12345").split(" ")) {
            C.fault(1, open + "^" + token);
        }
        C.fault(1, open + " ^");
        C.read(shut + ";");
        C.fault(2, shut + "+^1;");
        C.fault(1, "^#" + whole + "row o;");
        C.fault(1, whole.substring(0, 9) + "^)" + whole.substring(9));
        C.about("promise 4: a LAW of all the TOKENS there are");
        FogShare x = C.read("drifts=1" + times(197, "+1") + ";");
        E.due(x, 0, "count", 0);
        x = C.read("wind=2" + times(197, "*1") + ";");
        E.due(x, 2, "wind", 0);
        x = C.read("wind=0" + times(197, "+1") + "-194;");
        E.due(x, 3, "wind", 72);
    }

    private static void mostIfs() {
        C.about("Terms (promise 4): ROOM, a 5th if of a LAW (at it)");
        String one = "if 2<1 then 3 else ";
        for (String law : new String[] {"wind=", "drifts=", "thins=", "gives="}) {
            C.read(law + times(4, one) + "4;");
            C.fault(2, law + times(4, one) + "^if 1<2 then 3 else 4;");
            C.fault(2, law + times(4, one) + "^if");
            C.fault(2, law + times(4, one) + " \t^if # then");
            C.fault(2, law + "4;" + law + times(4, one) + "4;" + law + times(4, one) + "^if");
            C.fault(1, law + times(4, one) + "4 ^if");
            C.fault(1, law + times(3, one) + "if 1<2 then ^if");
        }
        E.due(C.read("wind=" + times(4, one) + "4;thins=" + times(4, one) + "4;gives=" + times(4, one) + "4;wind=" + times(4, one) + "2;"),
            2, "wind", 0);
        C.about("promise 4: each if of a LAW, and the E behind the last one");
        String law = "wind = if hour<1 then 4 else if hour<2 then 3 else if hour<3 then 2 else if hour<4 then 1 else 0;";
        FogShare x = C.read(law);
        int[] due = {4, 3, 2, 1, 0, 0};
        for (int n = 0; n < due.length; n++) {
            E.due(x, due[n], "wind", n);
        }
    }

    private static void mostBrackets() {
        C.about("Terms (promise 4): ROOM, a 7th ( within one another (at it)");
        String[] heads = {"wind=", "wind=1+", "drifts=if ", "thins=if 1<", "gives=if 1<2 then ", "wind=if 1<2 then 3 else ",
            "wind=((((((1))))))*", "wind=(1)+((2))-", "drifts=(1+2)*(3)/((4)+(5))+"};
        String[] tails = {";", ";", "<1 then 2 else 3;", " then 2 else 3;", " else 4;", ";", ";", ";", ";"};
        for (int i = 0; i < heads.length; i++) {
            C.read(heads[i] + "((((((1))))))" + tails[i]);
            C.read(heads[i] + "(1+(2*(3-(4/(5+(6))))))" + tails[i]);
            C.fault(2, heads[i] + "((((((^(1)))))))" + tails[i]);
            C.fault(2, heads[i] + "((((((^(");
            C.fault(2, heads[i] + "((((((  ^( #");
            C.fault(2, heads[i] + "(1+(2*(3-(4/(5+(6+^(7)))))))" + tails[i]);
            C.fault(1, heads[i] + "((((((1)))))^" + tails[i].trim());
            C.fault(1, heads[i] + "((((((1))))))^)" + tails[i]);
            C.fault(1, heads[i] + "((((((^)");
        }
        C.read("wind=" + times(20, "((((((1))))))+") + "1;");
        E.due(C.read("wind=((((((1+1))))))*((((((1+1))))));"), 4, "wind", 0);
        E.due(C.read("wind=1*(1+1*(1+1*(1+1*(1+1*(1+1*(1-3))))));"), 3, "wind", 0);
        E.due(C.read("wind=30-(1+2*(1+2*(1+2*(1+2*(1*2-2*(3-3))))));"), 0, "wind", 0);
    }
}
