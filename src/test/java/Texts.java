import java.util.ArrayList;
import java.util.List;
import java.util.Random;

/** Makes texts by a seed: sound ones, and ones with something wrong. */
final class Texts {
    private static final String[] VARS = {"fog", "hour", "day", "across", "down", "whose", "store", "ration", "blows"};
    private static final String[] TOKENS = {"row", "holding", "use", "bank", "wind", "drifts", "thins", "gives", "gusts",
        "leak", "seed", "if", "then", "else", "fog", "hour", ";", "=", "+", "-", "*", "/", "<", "(", ")", "0", "7", "24",
        "100", "1000", "9999", "12345", "x", "ab", "abcdefgh", "abcdefghi", "#", ".", "A", "ha", "hb", "ua", "ub", "\u00e9", "\u0000"};
    private static final String[] WINDS = {"1", "2", "3", "4", "hour", "hour/3", "day+1", "hour*7", "1+hour/2"};
    private final Random random;
    private int holdings;

    Texts(Random random) {
        this.random = random;
    }

    /** The TOKENS of a text that is sound but for what chance spoils now and then. */
    List<String> sound() {
        List<String> head = new ArrayList<>();
        List<List<String>> tells = new ArrayList<>();
        holdings = random.nextInt(5);
        int down = random.nextInt(10) == 0 ? 0 : 1 + random.nextInt(random.nextInt(3) == 0 ? 5 : 3);
        int across = 1 + random.nextInt(random.nextInt(3) == 0 ? 8 : 4);
        for (int i = 0; i < holdings; i++) {
            add(head, "holding", names(i), num(0, random.nextBoolean() ? 20 : 99), num(0, random.nextBoolean() ? 40 : 999), ";");
        }
        int uses = holdings == 0 ? 0 : random.nextInt(7);
        for (int i = 0; i < uses; i++) {
            int from = random.nextInt(24);
            add(head, "use", "u" + (char) ('a' + i), names(random.nextInt(holdings)), "" + from, num(from, 23),
                num(1, random.nextBoolean() ? 6 : 99), ";");
        }
        for (int i = 0; i < down; i++) {
            tells.add(list("row", row(across), ";"));
        }
        int banks = down == 0 ? 0 : random.nextInt(13);
        for (int i = 0; i < banks; i++) {
            tells.add(list("bank", num(0, across - 1), num(0, down - 1), num(0, 99), ";"));
        }
        laws(tells);
        List<String> out = new ArrayList<>();
        boolean headFirst = random.nextBoolean();
        out.addAll(headFirst ? head : new ArrayList<>());
        java.util.Collections.shuffle(tells, random);
        tells.forEach(out::addAll);
        out.addAll(headFirst ? new ArrayList<>() : head);
        return out;
    }

    /** The same with one to three things wrong. */
    List<String> spoiled() {
        List<String> out = sound();
        int many = 1 + random.nextInt(3);
        for (int i = 0; i < many && !out.isEmpty(); i++) {
            int at = random.nextInt(out.size());
            String token = TOKENS[random.nextInt(TOKENS.length)];
            switch (random.nextInt(5)) {
                case 0: out.remove(at); break;
                case 1: out.add(at, token); break;
                case 2: out.set(at, token); break;
                case 3: out.set(at, "" + random.nextInt(1100)); break;
                default: out.addAll(at, out.subList(at, Math.min(out.size(), at + 1 + random.nextInt(9)))
                    .stream().collect(java.util.stream.Collectors.toList())); break;
            }
        }
        if (random.nextInt(8) == 0) {
            out = new ArrayList<>(out.subList(0, random.nextInt(out.size() + 1)));
        }
        return out;
    }

    /** A text of a length near 400 TOKENS. */
    List<String> long400() {
        List<String> out = new ArrayList<>(list("thins", "=", "1"));
        int many = 396 + random.nextInt(8);
        while (out.size() + 1 < many) {
            add(out, "+", "1");
        }
        out.add(random.nextInt(4) == 0 ? "x" : ";");
        return out;
    }

    /** Blanks between the TOKENS: always where they would run together, else by chance. */
    String spaced(List<String> tokens) {
        StringBuilder s = new StringBuilder();
        boolean tight = random.nextBoolean();
        for (String token : tokens) {
            if (s.length() > 0 && (runsOn(s.charAt(s.length() - 1), token.charAt(0)) || !tight)) {
                s.append(" \n\t\r".charAt(random.nextInt(12) == 0 ? random.nextInt(4) : 0));
            }
            s.append(token);
        }
        if (random.nextInt(4) == 0) {
            s.append(' ');
        }
        s.setLength(Math.min(s.length(), 2000));
        return s.toString();
    }

    String expr(int depth) {
        StringBuilder s = new StringBuilder(unit(depth));
        int more = random.nextInt(3);
        for (int i = 0; i < more; i++) {
            s.append(' ').append("+-*/".charAt(random.nextInt(4))).append(' ').append(unit(depth));
        }
        return s.toString();
    }

    private String unit(int depth) {
        int kind = random.nextInt(10);
        if (kind < 4) {
            return VARS[random.nextInt(VARS.length)];
        }
        if (kind < 8 || depth == 0) {
            return "" + random.nextInt(random.nextInt(6) == 0 ? 9999 : 10);
        }
        return "( " + expr(depth - 1) + " )";
    }

    private void laws(List<List<String>> tells) {
        String[] laws = {"wind", "drifts", "thins", "gives"};
        for (String law : laws) {
            for (int i = random.nextInt(5) + (law.equals("wind") ? 1 : 0); i >= 2; i -= 2) {
                List<String> tell = list(law, "=");
                for (int k = random.nextInt(3); k > 0; k--) {
                    tell.add("if");
                    words(tell, expr(2));
                    tell.add("<");
                    words(tell, expr(1));
                    tell.add("then");
                    words(tell, expr(1));
                    tell.add("else");
                }
                words(tell, random.nextInt(3) == 0 ? num(0, 6) : expr(random.nextInt(20) == 0 ? 6 : 3));
                tell.add(";");
                tells.add(tell);
            }
        }
        if (random.nextInt(3) > 0) {
            tells.add(list("wind", "=", WINDS[random.nextInt(WINDS.length)], ";"));
        }
        if (random.nextBoolean()) {
            tells.add(list("gusts", num(0, 100), ";"));
        }
        if (random.nextBoolean()) {
            tells.add(list("leak", num(0, random.nextBoolean() ? 6 : 99), ";"));
        }
        if (random.nextBoolean()) {
            tells.add(list("seed", num(0, 9999), ";"));
        }
    }

    private String row(int across) {
        StringBuilder s = new StringBuilder();
        for (int i = 0; i < across; i++) {
            int owner = random.nextInt(holdings + 1);
            s.append(owner == holdings ? 'o' : (char) ('a' + owner));
        }
        return s.toString();
    }

    private String names(int i) {
        return "h" + (char) ('a' + i);
    }

    private String num(int low, int high) {
        int n = low + random.nextInt(high - low + 1);
        return random.nextInt(300) == 0 ? "" + (high + 1) : random.nextInt(20) == 0 && n < 10 ? "0" + n : "" + n;
    }

    private static boolean runsOn(char last, char first) {
        return isWord(last) && isWord(first);
    }

    private static boolean isWord(char sign) {
        return sign >= 'a' && sign <= 'z' || sign >= '0' && sign <= '9';
    }

    private static List<String> list(String... tokens) {
        List<String> out = new ArrayList<>();
        add(out, tokens);
        return out;
    }

    private static void add(List<String> out, String... tokens) {
        for (String token : tokens) {
            out.add(token);
        }
    }

    private static void words(List<String> out, String text) {
        add(out, text.split(" "));
    }
}
