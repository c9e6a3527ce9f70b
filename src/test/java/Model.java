import java.util.ArrayDeque;
import java.util.ArrayList;
import java.util.Arrays;
import java.util.Deque;
import java.util.HashMap;
import java.util.HashSet;
import java.util.LinkedHashMap;
import java.util.List;
import java.util.Map;
import java.util.Set;
import java.util.regex.Matcher;
import java.util.regex.Pattern;

/** The document told a second time, with all of Java's library and no thought of speed: what FogShare is compared with. */
final class Model {
    static final int NONE = -1;

    private final StringBuilder tape = new StringBuilder();
    private int place = NONE;
    private Text text = new Text();
    private State now = new State(text);
    private final Deque<State> past = new ArrayDeque<>();
    private final Map<Integer, State> slots = new HashMap<>();
    private final List<int[]> told = new ArrayList<>();

    // ---- the text -------------------------------------------------------------------------------------------------

    static final class Fault extends RuntimeException {
        private static final long serialVersionUID = 1L;
        final int number;
        final int place;

        Fault(int number, int place) {
            this.number = number;
            this.place = place;
        }
    }

    static final class Token {
        final String kind;
        final String text;
        final int place;

        Token(String kind, String text, int place) {
            this.kind = kind;
            this.text = text;
            this.place = place;
        }
    }

    interface Expr {
        int eval(Map<String, Integer> vars);
    }

    static final class Law {
        final List<Expr[]> ifs = new ArrayList<>();
        Expr last;

        int eval(Map<String, Integer> vars) {
            try {
                for (Expr[] one : ifs) {
                    if (one[0].eval(vars) < one[1].eval(vars)) {
                        return one[2].eval(vars);
                    }
                }
                return last.eval(vars);
            } catch (Fault divided) {
                return 0;
            }
        }
    }

    static final class Holding {
        String name;
        int ration;
        int store;
    }

    static final class Use {
        String name;
        int holding;
        int from;
        int till;
        int thick;
    }

    static final class Text {
        final List<String> rows = new ArrayList<>();
        final List<Holding> holdings = new ArrayList<>();
        final List<Use> uses = new ArrayList<>();
        final List<int[]> banks = new ArrayList<>();
        final Map<String, Law> laws = new HashMap<>();
        int gusts = 0;
        int leak = 3;
        int seed = 0;

        int wide() {
            return rows.isEmpty() ? 0 : rows.get(0).length();
        }

        boolean on(int x, int y) {
            return x >= 0 && y >= 0 && y < rows.size() && x < wide();
        }
    }

    private static final Set<String> WORDS = new HashSet<>(Arrays.asList("row", "holding", "use", "bank", "wind", "drifts",
        "thins", "gives", "gusts", "leak", "seed", "if", "then", "else", "fog", "hour", "day", "across", "down", "whose",
        "store", "ration", "blows"));
    private static final Set<String> VARS = new HashSet<>(Arrays.asList("fog", "hour", "day", "across", "down", "whose",
        "store", "ration", "blows"));

    static List<Token> tokens(String text) {
        List<Token> list = new ArrayList<>();
        Matcher m = Pattern.compile("([ \\n\\r\\t]+)|([a-z]+)|([0-9]+)|([;=+\\-*/<()])|([\\x00-\\uffff])").matcher(text);
        while (m.find()) {
            String s = m.group();
            if (m.group(1) != null) {
                continue;
            }
            String kind = "?";
            if (m.group(2) != null && s.length() <= 8) {
                kind = WORDS.contains(s) ? s : "NAME";
            } else if (m.group(3) != null && s.length() <= 4) {
                kind = "INT";
            } else if (m.group(4) != null) {
                kind = s;
            }
            list.add(new Token(kind, s, m.start()));
        }
        list.add(new Token("END", "", text.length()));
        return list;
    }

    /** Reads the grammar by recursion; with a Text it also makes it and tells faults 3 to 6. */
    static final class Reader {
        final List<Token> list;
        final Text out;
        int at = 0;
        final int end;
        final Map<String, Integer> counts = new HashMap<>();

        Reader(String text, Text out) {
            list = tokens(text);
            this.out = out;
            end = text.length();
        }

        Token look() {
            return list.get(at);
        }

        Token take(String kind) {
            Token t = look();
            if (!t.kind.equals(kind)) {
                throw new Fault(1, t.place);
            }
            if (at >= 400) {
                throw new Fault(2, t.place);
            }
            at++;
            return t;
        }

        void text() {
            while (!look().kind.equals("END")) {
                tell();
            }
            if (out == null) {
                return;
            }
            for (String row : out.rows) {
                for (char c : row.toCharArray()) {
                    if (c != 'o' && c - 'a' >= out.holdings.size()) {
                        throw new Fault(6, end);
                    }
                }
            }
            for (int[] bank : out.banks) {
                if (!out.on(bank[0], bank[1])) {
                    throw new Fault(6, end);
                }
            }
        }

        void count(String kind, int most) {
            int many = counts.merge(kind, 1, Integer::sum);
            if (many > most) {
                throw new Fault(2, look().place);
            }
        }

        void tell() {
            Token t = look();
            switch (t.kind) {
                case "row": count("row", 5); take("row"); row(); break;
                case "holding": count("holding", 4); take("holding"); holding(); break;
                case "use": count("use", 6); take("use"); use(); break;
                case "bank": count("bank", 12); take("bank"); bank(); break;
                case "wind": case "drifts": case "thins": case "gives":
                    take(t.kind);
                    Law law = law();
                    if (out != null) {
                        out.laws.put(t.kind, law);
                    }
                    break;
                case "gusts": take("gusts"); int g = number(0, 100); if (out != null) { out.gusts = g; } break;
                case "leak": take("leak"); int l = number(0, 99); if (out != null) { out.leak = l; } break;
                case "seed": take("seed"); int s = number(0, 9999); if (out != null) { out.seed = s; } break;
                default: throw new Fault(1, t.place);
            }
            take(";");
        }

        void row() {
            Token t = take("NAME");
            if (out == null) {
                return;
            }
            if (!out.rows.isEmpty() && out.rows.get(0).length() != t.text.length() || !t.text.matches("[abcdo]+")) {
                throw new Fault(6, t.place);
            }
            out.rows.add(t.text);
        }

        String fresh() {
            Token t = take("NAME");
            if (out != null) {
                for (Holding h : out.holdings) {
                    if (h.name.equals(t.text)) {
                        throw new Fault(3, t.place);
                    }
                }
                for (Use u : out.uses) {
                    if (u.name.equals(t.text)) {
                        throw new Fault(3, t.place);
                    }
                }
            }
            return t.text;
        }

        void holding() {
            Holding h = new Holding();
            h.name = fresh();
            h.ration = number(0, 99);
            h.store = number(0, 999);
            if (out != null) {
                out.holdings.add(h);
            }
        }

        void use() {
            Use u = new Use();
            u.name = fresh();
            Token of = take("NAME");
            u.holding = -1;
            if (out != null) {
                for (int i = out.holdings.size() - 1; i >= 0; i--) {
                    if (out.holdings.get(i).name.equals(of.text)) {
                        u.holding = i;
                    }
                }
                if (u.holding < 0) {
                    throw new Fault(4, of.place);
                }
            }
            u.from = number(0, 23);
            u.till = number(u.from, 23);
            u.thick = number(1, 99);
            if (out != null) {
                out.uses.add(u);
            }
        }

        void bank() {
            int[] b = {number(0, 7), number(0, 4), number(0, 99)};
            if (out != null) {
                out.banks.add(b);
            }
        }

        int number(int low, int high) {
            Token t = take("INT");
            int n = Integer.parseInt(t.text);
            if (out != null && (n < low || n > high)) {
                throw new Fault(5, t.place);
            }
            return n;
        }

        Law law() {
            Law law = new Law();
            take("=");
            while (look().kind.equals("if")) {
                if (law.ifs.size() == 4) {
                    throw new Fault(2, look().place);
                }
                take("if");
                Expr a = sum(0);
                take("<");
                Expr b = sum(0);
                take("then");
                Expr c = sum(0);
                take("else");
                law.ifs.add(new Expr[] {a, b, c});
            }
            law.last = sum(0);
            return law;
        }

        Expr sum(int depth) {
            Expr e = part(depth);
            while (look().kind.equals("+") || look().kind.equals("-")) {
                e = two(take(look().kind).kind, e, part(depth));
            }
            return e;
        }

        Expr part(int depth) {
            Expr e = unit(depth);
            while (look().kind.equals("*") || look().kind.equals("/")) {
                e = two(take(look().kind).kind, e, unit(depth));
            }
            return e;
        }

        Expr two(String sign, Expr a, Expr b) {
            return vars -> {
                int x = a.eval(vars);
                int y = b.eval(vars);
                switch (sign) {
                    case "+": return x + y;
                    case "-": return x - y;
                    case "*": return x * y;
                    default:
                        if (y == 0) {
                            throw new Fault(0, 0);
                        }
                        return (int) ((long) x / y);
                }
            };
        }

        Expr unit(int depth) {
            Token t = look();
            if (t.kind.equals("INT")) {
                int n = Integer.parseInt(take("INT").text);
                return vars -> n;
            }
            if (VARS.contains(t.kind)) {
                take(t.kind);
                return vars -> vars.getOrDefault(t.kind, 0);
            }
            if (!t.kind.equals("(")) {
                throw new Fault(1, t.place);
            }
            if (depth == 6) {
                throw new Fault(2, t.place);
            }
            take("(");
            Expr e = sum(depth + 1);
            take(")");
            return e;
        }
    }

    // ---- what goes on ---------------------------------------------------------------------------------------------

    static final class State {
        int hour = 0;
        final int[][] fog;
        final int[][] whose;
        final int[] store;
        final int[] drew;
        final int[][] lent;

        State(Text t) {
            fog = new int[t.rows.size()][t.wide()];
            whose = new int[t.rows.size()][t.wide()];
            store = new int[t.holdings.size()];
            drew = new int[t.holdings.size()];
            lent = new int[t.holdings.size()][t.holdings.size()];
            for (int y = 0; y < t.rows.size(); y++) {
                for (int x = 0; x < t.wide(); x++) {
                    char c = t.rows.get(y).charAt(x);
                    whose[y][x] = c == 'o' ? 9 : c - 'a';
                }
            }
            for (int[] b : t.banks) {
                fog[b[1]][b[0]] = b[2];
            }
            for (int i = 0; i < store.length; i++) {
                store[i] = t.holdings.get(i).store;
            }
        }

        State(State o) {
            hour = o.hour;
            fog = deep(o.fog);
            whose = deep(o.whose);
            store = o.store.clone();
            drew = o.drew.clone();
            lent = deep(o.lent);
        }

        static int[][] deep(int[][] a) {
            int[][] b = new int[a.length][];
            for (int i = 0; i < a.length; i++) {
                b[i] = a[i].clone();
            }
            return b;
        }

        int total() {
            return Arrays.stream(fog).flatMapToInt(Arrays::stream).sum();
        }

        int of(int holding) {
            int all = 0;
            for (int y = 0; y < fog.length; y++) {
                for (int x = 0; x < fog[y].length; x++) {
                    all += whose[y][x] == holding ? fog[y][x] : 0;
                }
            }
            return all;
        }

        int cells(int holding) {
            return (int) Arrays.stream(whose).flatMapToInt(Arrays::stream).filter(w -> w == holding).count();
        }
    }

    private static int held(int n, int low, int high) {
        return n < low ? low : n > high ? high : n;
    }

    private static int eval(Text t, String law, Map<String, Integer> vars) {
        if (t.laws.containsKey(law)) {
            return t.laws.get(law).eval(vars);
        }
        switch (law) {
            case "wind": return 0;
            case "drifts": return vars.get("fog") / 4;
            case "thins": return 1;
            default: return vars.get("ration");
        }
    }

    private static Map<String, Integer> clock(int hour) {
        Map<String, Integer> vars = new HashMap<>();
        vars.put("hour", hour % 24);
        vars.put("day", hour / 24);
        return vars;
    }

    static int windOf(Text t, int hour) {
        int w = eval(t, "wind", clock(hour));
        return w < 0 ? 0 : w % 5;
    }

    static int cellLaw(Text t, String law, State s, int x, int y) {
        Map<String, Integer> vars = clock(s.hour);
        vars.put("fog", s.fog[y][x]);
        vars.put("across", x);
        vars.put("down", y);
        vars.put("whose", s.whose[y][x]);
        vars.put("blows", windOf(t, s.hour));
        return held(eval(t, law, vars), 0, s.fog[y][x]);
    }

    static boolean gust(Text t, int seed, int hour) {
        int h = seed;
        for (int it : new int[] {105, 4 * hour}) {
            h = (h ^ it) * 1103515245 + 12345;
            h = h ^ (h >>> 15);
        }
        return (h >>> 1) % 100 < t.gusts;
    }

    private static final int[] DX = {0, 1, 0, -1, 0};
    private static final int[] DY = {0, 0, 1, 0, -1};

    static State hour(Text t, State from, int seed, int leakX, int leakY) {
        State s = new State(from);
        int w = windOf(t, s.hour);
        int steps = w == 0 ? 0 : gust(t, seed, s.hour) ? 2 : 1;
        for (int step = 0; step < steps; step++) {
            State begun = new State(s);
            for (int y = 0; y < s.fog.length; y++) {
                for (int x = 0; x < s.fog[y].length; x++) {
                    int goes = cellLaw(t, "drifts", begun, x, y);
                    s.fog[y][x] -= goes;
                    if (t.on(x + DX[w], y + DY[w])) {
                        s.fog[y + DY[w]][x + DX[w]] += goes;
                    }
                }
            }
        }
        for (int y = 0; y < s.fog.length; y++) {
            for (int x = 0; x < s.fog[y].length; x++) {
                s.fog[y][x] -= cellLaw(t, "thins", s, x, y);
                if (x == leakX && y == leakY) {
                    s.fog[y][x] = Math.max(0, s.fog[y][x] - t.leak);
                }
                s.fog[y][x] = Math.min(99, s.fog[y][x]);
            }
        }
        s.hour++;
        if (s.hour % 24 == 0) {
            for (int h = 0; h < s.store.length; h++) {
                Map<String, Integer> vars = clock(s.hour);
                vars.put("whose", h);
                vars.put("store", s.store[h]);
                vars.put("ration", t.holdings.get(h).ration);
                vars.put("fog", s.of(h));
                s.store[h] = Math.min(999, s.store[h] + held(eval(t, "gives", vars), 0, 99));
            }
        }
        return s;
    }

    private State in(State from, int n, int seed) {
        State s = from;
        for (int i = 0; i < n; i++) {
            s = hour(text, s, seed, -1, -1);
        }
        return s;
    }

    private State in(int n) {
        return in(now, n, text.seed);
    }

    private boolean noHolding(int h) {
        return h < 0 || h >= text.holdings.size();
    }

    private boolean noUse(int u) {
        return u < 0 || u >= text.uses.size();
    }

    private static boolean out(int n, int low, int high) {
        return n < low || n > high;
    }

    private boolean servedIn(State s, int use) {
        Use u = text.uses.get(use);
        if (s.hour % 24 < u.from || s.hour % 24 > u.till) {
            return true;
        }
        for (int y = 0; y < s.fog.length; y++) {
            for (int x = 0; x < s.fog[y].length; x++) {
                if (s.whose[y][x] == u.holding && s.fog[y][x] < u.thick) {
                    return false;
                }
            }
        }
        return s.cells(u.holding) > 0;
    }

    private void keep() {
        past.addLast(new State(now));
        if (past.size() > 30) {
            past.removeFirst();
        }
    }

    // ---- the face -------------------------------------------------------------------------------------------------

    int feed(int a, int b, int c, int d, int e) {
        if (tape.length() + 20 > 2000) {
            return NONE;
        }
        for (int word : new int[] {a, b, c, d, e}) {
            for (int i = 3; i >= 0; i--) {
                tape.append((char) (word >> 8 * i & 255));
            }
        }
        return tape.length();
    }

    int back(int n) {
        if (out(n, 0, tape.length())) {
            return NONE;
        }
        tape.setLength(tape.length() - n);
        return tape.length();
    }

    int read() {
        String s = tape.toString();
        tape.setLength(0);
        Text t = new Text();
        place = NONE;
        try {
            new Reader(s, null).text();
            new Reader(s, t).text();
        } catch (Fault f) {
            place = f.place;
            return f.number;
        }
        text = t;
        now = new State(t);
        past.clear();
        slots.clear();
        told.clear();
        return 0;
    }

    int place() {
        return place;
    }

    int cell(int x, int y, int what) {
        if (!text.on(x, y)) {
            return -100;
        }
        switch (what) {
            case 0: return now.fog[y][x];
            case 1: return now.whose[y][x];
            case 2: return cellLaw(text, "drifts", now, x, y);
            case 3: return cellLaw(text, "thins", now, x, y);
            default: return -100;
        }
    }

    int holding(int h, int what) {
        if (noHolding(h)) {
            return -100000;
        }
        switch (what) {
            case 0: return text.holdings.get(h).ration;
            case 1: return now.store[h];
            case 2: return now.cells(h);
            case 3: return now.of(h);
            case 4: return over() >> h & 1;
            case 5: return now.drew[h];
            case 6:
                int net = 0;
                for (int i = 0; i < now.store.length; i++) {
                    net += now.lent[h][i] - now.lent[i][h];
                }
                return net;
            default: return -100000;
        }
    }

    int use(int u, int what) {
        if (noUse(u)) {
            return NONE;
        }
        Use use = text.uses.get(u);
        switch (what) {
            case 0: return use.holding;
            case 1: return use.from;
            case 2: return use.till;
            case 3: return use.thick;
            case 4: return now.hour % 24 >= use.from && now.hour % 24 <= use.till ? 1 : 0;
            default: return NONE;
        }
    }

    int draw(int h, int x, int y, int n) {
        if (noHolding(h) || !text.on(x, y) || out(n, 1, 99)) {
            return NONE;
        }
        if (now.whose[y][x] != h || now.store[h] < n || now.fog[y][x] + n > 99) {
            return -2;
        }
        keep();
        now.store[h] -= n;
        now.drew[h] += n;
        return now.fog[y][x] += n;
    }

    int lend(int h, int other, int n) {
        if (noHolding(h) || noHolding(other) || h == other || out(n, 1, 999)) {
            return NONE;
        }
        if (now.store[h] < n || now.store[other] + n > 999) {
            return -2;
        }
        keep();
        now.store[other] += n;
        now.lent[h][other] += n;
        return now.store[h] -= n;
    }

    boolean move(int x, int y, int h) {
        if (!text.on(x, y) || h != NONE && noHolding(h) || now.whose[y][x] == (h == NONE ? 9 : h)) {
            return false;
        }
        keep();
        now.whose[y][x] = h == NONE ? 9 : h;
        return true;
    }

    int hours(int n) {
        if (out(n, 0, 48)) {
            return NONE;
        }
        if (n > 0) {
            keep();
            now = in(n);
        }
        return now.hour;
    }

    boolean undo() {
        if (past.isEmpty()) {
            return false;
        }
        now = past.removeLast();
        return true;
    }

    int then(int x, int y, int n) {
        return !text.on(x, y) || out(n, 0, 72) ? NONE : in(n).fog[y][x];
    }

    int all(int n, int what, int h) {
        if (out(n, 0, 72) || out(what, 0, 2) || what > 0 && noHolding(h)) {
            return NONE;
        }
        State s = in(n);
        return what == 0 ? s.total() : what == 1 ? s.of(h) : s.store[h];
    }

    int thickest(int n, int what) {
        if (out(n, 0, 72) || out(what, 0, 1)) {
            return NONE;
        }
        State s = in(n);
        int best = -2;
        int where = -2;
        for (int y = 0; y < s.fog.length; y++) {
            for (int x = 0; x < s.fog[y].length; x++) {
                if (s.fog[y][x] > best) {
                    best = s.fog[y][x];
                    where = 10 * y + x;
                }
            }
        }
        return what == 0 ? best : where;
    }

    int hid(int x, int y, int n, int thick) {
        if (!text.on(x, y) || out(n, 1, 72) || out(thick, 0, 99)) {
            return NONE;
        }
        int many = 0;
        State s = now;
        for (int i = 0; i < n; i++, s = hour(text, s, text.seed, -1, -1)) {
            many += s.fog[y][x] >= thick ? 1 : 0;
        }
        return many;
    }

    int lost(int n) {
        return out(n, 0, 72) ? NONE : now.total() - in(n).total();
    }

    int served(int u, int n) {
        return noUse(u) || out(n, 0, 72) ? NONE : servedIn(in(n), u) ? 1 : 0;
    }

    int missed(int u, int n) {
        if (noUse(u) || out(n, 1, 72)) {
            return NONE;
        }
        int many = 0;
        State s = now;
        for (int i = 0; i < n; i++, s = hour(text, s, text.seed, -1, -1)) {
            many += servedIn(s, u) ? 0 : 1;
        }
        return many;
    }

    int over() {
        int bits = 0;
        for (int i = 0; i < now.store.length; i++) {
            bits |= now.of(i) > text.holdings.get(i).ration ? 1 << i : 0;
        }
        return bits;
    }

    int least(int x, int y, int n, int thick) {
        if (!text.on(x, y) || out(n, 0, 72) || out(thick, 0, 99)) {
            return NONE;
        }
        for (int more = 0; now.fog[y][x] + more <= 99; more++) {
            State s = new State(now);
            s.fog[y][x] += more;
            if (in(s, n, text.seed).fog[y][x] >= thick) {
                return more;
            }
        }
        return -2;
    }

    int unseen(int x, int y, int toX, int toY, int thick) {
        if (!text.on(x, y) || !text.on(toX, toY) || out(thick, 0, 99)) {
            return NONE;
        }
        Set<Integer> at = new HashSet<>();
        at.add(10 * y + x);
        State s = now;
        for (int h = 0; h <= 40; h++) {
            Set<Integer> hidden = new HashSet<>();
            for (int p : at) {
                if (s.fog[p / 10][p % 10] >= thick) {
                    hidden.add(p);
                }
            }
            if (hidden.contains(10 * toY + toX)) {
                return h;
            }
            at = new HashSet<>();
            for (int p : hidden) {
                for (int w = 0; w < 5; w++) {
                    if (text.on(p % 10 + DX[w], p / 10 + DY[w])) {
                        at.add(10 * (p / 10 + DY[w]) + p % 10 + DX[w]);
                    }
                }
            }
            s = hour(text, s, text.seed, -1, -1);
        }
        return -2;
    }

    int watch(int from, int to, int thick, int i) {
        if (from < 0 || to < 0 || !text.on(from % 10, from / 10) || !text.on(to % 10, to / 10) || from == to
                || out(thick, 0, 99) || out(i, -1, 2)) {
            return NONE;
        }
        List<Integer> cells = new ArrayList<>();
        for (int y = 0; y < text.rows.size(); y++) {
            for (int x = 0; x < text.wide(); x++) {
                if (10 * y + x != from && 10 * y + x != to) {
                    cells.add(10 * y + x);
                }
            }
        }
        for (int many = 0; many <= 3; many++) {
            List<Integer> found = watching(cells, 0, many, new ArrayList<>(), from, to, thick);
            if (found != null) {
                return i == NONE ? many : i < many ? found.get(i) : NONE;
            }
        }
        return -2;
    }

    private List<Integer> watching(List<Integer> cells, int first, int many, List<Integer> have, int from, int to, int thick) {
        if (have.size() == many) {
            return passes(from, to, thick, have, new HashSet<>()) ? null : new ArrayList<>(have);
        }
        for (int i = first; i < cells.size(); i++) {
            have.add(cells.get(i));
            List<Integer> found = watching(cells, i + 1, many, have, from, to, thick);
            have.remove(have.size() - 1);
            if (found != null) {
                return found;
            }
        }
        return null;
    }

    private boolean passes(int p, int to, int thick, List<Integer> watched, Set<Integer> been) {
        int x = p % 10;
        int y = p / 10;
        if (p < 0 || !text.on(x, y) || now.fog[y][x] < thick || watched.contains(p) || !been.add(p)) {
            return false;
        }
        if (p == to) {
            return true;
        }
        boolean way = false;
        for (int w = 1; w < 5; w++) {
            if (text.on(x + DX[w], y + DY[w])) {
                way = way || passes(10 * (y + DY[w]) + x + DX[w], to, thick, watched, been);
            }
        }
        return way;
    }

    int sight(int x, int y, int thick) {
        if (!text.on(x, y) || out(thick, 0, 99)) {
            return NONE;
        }
        int many = 0;
        for (int w = 1; w < 5; w++) {
            int a = x + DX[w];
            int b = y + DY[w];
            while (text.on(a, b) && now.fog[b][a] < thick) {
                many++;
                a += DX[w];
                b += DY[w];
            }
        }
        return many;
    }

    int wind(int n) {
        return out(n, 0, 72) ? NONE : windOf(text, now.hour + n);
    }

    int lent(int h, int other) {
        return noHolding(h) || noHolding(other) || h == other ? NONE : now.lent[h][other];
    }

    int gone(int what) {
        if (out(what, 0, 1)) {
            return NONE;
        }
        State s = now;
        for (int n = 0; n <= 72; n++) {
            for (int h = 0; h < s.store.length; h++) {
                if (s.cells(h) > 0 && s.of(h) == 0) {
                    return what == 0 ? h : n;
                }
            }
            s = hour(text, s, text.seed, -1, -1);
        }
        return -2;
    }

    int year(int u, int n, int seeds) {
        if (noUse(u) || out(n, 0, 72) || out(seeds, 1, 20)) {
            return NONE;
        }
        int many = 0;
        for (int i = 0; i < seeds; i++) {
            many += servedIn(in(now, n, text.seed + i), u) ? 1 : 0;
        }
        return many;
    }

    int tell(int x, int y, int n, int fog) {
        if (told.size() == 20 || !text.on(x, y) || out(n, 0, 24) || out(fog, 0, 99)) {
            return NONE;
        }
        told.add(new int[] {x, y, n, fog});
        return told.size() - 1;
    }

    int forget() {
        int many = told.size();
        told.clear();
        return many;
    }

    private Map<Integer, List<State>> suspects(int k) {
        Map<Integer, List<State>> left = new LinkedHashMap<>();
        List<Integer> all = new ArrayList<>();
        for (int y = 0; y < text.rows.size(); y++) {
            for (int x = 0; x < text.wide(); x++) {
                all.add(10 * y + x);
            }
        }
        all.add(100);
        for (int suspect : all) {
            List<State> story = new ArrayList<>();
            State s = new State(text);
            for (int n = 0; n <= 24; n++) {
                story.add(s);
                s = hour(text, s, text.seed, suspect == 100 ? -1 : suspect % 10, suspect == 100 ? -1 : suspect / 10);
            }
            boolean so = true;
            for (int[] one : told.subList(0, k)) {
                so = so && story.get(one[2]).fog[one[1]][one[0]] == one[3];
            }
            if (so) {
                left.put(suspect, story);
            }
        }
        return left;
    }

    int leaks(int k) {
        return out(k, 0, told.size()) ? NONE : suspects(k).size();
    }

    int sure(int k) {
        if (out(k, 0, told.size())) {
            return NONE;
        }
        Set<Integer> left = suspects(k).keySet();
        return left.size() == 1 ? left.iterator().next() : -2;
    }

    int ask(int k, int n) {
        if (out(k, 0, told.size()) || out(n, 0, 24)) {
            return NONE;
        }
        Map<Integer, List<State>> left = suspects(k);
        int best = -2;
        int fewest = Integer.MAX_VALUE;
        for (int y = 0; y < text.rows.size() && !left.isEmpty(); y++) {
            for (int x = 0; x < text.wide(); x++) {
                Map<Integer, Integer> groups = new HashMap<>();
                for (List<State> story : left.values()) {
                    groups.merge(story.get(n).fog[y][x], 1, Integer::sum);
                }
                int worst = groups.values().stream().mapToInt(v -> v).max().getAsInt();
                if (worst < fewest) {
                    fewest = worst;
                    best = 10 * y + x;
                }
            }
        }
        return best;
    }

    boolean hold(int slot) {
        if (out(slot, 0, 2)) {
            return false;
        }
        slots.put(slot, new State(now));
        return true;
    }

    boolean restore(int slot) {
        if (!slots.containsKey(slot)) {
            return false;
        }
        now = new State(slots.get(slot));
        past.clear();
        return true;
    }

    int count(int what) {
        switch (what) {
            case 0: return text.wide();
            case 1: return text.rows.size();
            case 2: return text.holdings.size();
            case 3: return text.uses.size();
            case 4: return now.hour;
            case 5: return now.total();
            case 6: return Arrays.stream(now.store).sum();
            case 7: return Arrays.stream(now.drew).sum();
            case 8: return tape.length();
            case 9: return past.size();
            case 10: return told.size();
            case 11: return slots.size();
            case 12: return gust(text, text.seed, now.hour) ? 1 : 0;
            case 13: return text.banks.size();
            case 14: return now.cells(9);
            case 15: return (int) Arrays.stream(now.fog).flatMapToInt(Arrays::stream).filter(f -> f == 0).count();
            case 16: return now.hour / 24;
            case 17: return text.holdings.stream().mapToInt(h -> h.ration).sum();
            default: return NONE;
        }
    }
}
