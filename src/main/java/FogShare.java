/** Fog that is allotted to holdings, hour by hour; ../shared/DOC.md promises what each call answers. */
public final class FogShare {
    public static final int NONE = -1;

    private static final int NOT_SO = -2;
    private static final int NO_CELL = -100;
    private static final int NO_HOLDING = -100000;
    private static final int NO_LEAK = 100;

    private static final int WIDE = 8;
    private static final int HIGH = 5;
    private static final int CELLS = WIDE * HIGH;
    private static final int NOBODY = 9;
    private static final int OFF_LAND = -1;

    private static final int MOST_BYTES = 2000;
    private static final int FED_BYTES = 20;
    private static final int MOST_TOKENS = 400;
    private static final int MOST_LETTERS = 8;
    private static final int MOST_DIGITS = 4;
    private static final int MOST_HOLDINGS = 4;
    private static final int MOST_USES = 6;
    private static final int MOST_BANKS = 12;
    private static final int MOST_IFS = 4;
    private static final int MOST_DEPTH = 6;
    private static final int MOST_FOG = 99;
    private static final int MOST_STORE = 999;
    private static final int MOST_RATION = 99;
    private static final int MOST_GIVEN = 99;
    private static final int MOST_AHEAD = 72;
    private static final int MOST_BY_HAND = 48;
    private static final int MOST_UNSEEN = 40;
    private static final int MOST_UNDONE = 30;
    private static final int MOST_SLOTS = 3;
    private static final int MOST_WATCHED = 3;
    private static final int MOST_SEEDS = 20;
    private static final int MOST_TOLD = 20;
    private static final int LAST_TOLD_HOUR = 24;
    private static final int DAY_HOURS = 24;
    private static final int WINDS = 5;

    private static final int SYNTAX = 1;
    private static final int ROOM = 2;
    private static final int TWICE = 3;
    private static final int UNKNOWN = 4;
    private static final int WRONG = 5;
    private static final int LAND = 6;

    // Kinds of TOKENS: first the words as they stand in WORDS, last the signs as they stand in SIGNS.
    private static final String WORDS =
        "row holding use bank wind drifts thins gives gusts leak seed if then else fog hour day across down whose store ration blows ";
    private static final String SIGNS = ";=+-*/<()";
    private static final int ROW = 0;
    private static final int HOLDING = 1;
    private static final int USE = 2;
    private static final int BANK = 3;
    private static final int WIND = 4;
    private static final int GIVES = 7;
    private static final int GUSTS = 8;
    private static final int LEAK = 9;
    private static final int SEED = 10;
    private static final int IF = 11;
    private static final int THEN = 12;
    private static final int ELSE = 13;
    private static final int FOG = 14;
    private static final int BLOWS = 22;
    private static final int WORD_COUNT = 23;
    private static final int NAME = 23;
    private static final int INT = 24;
    private static final int SEMICOLON = 25;
    private static final int EQUALS = 26;
    private static final int PLUS = 27;
    private static final int MINUS = 28;
    private static final int TIMES = 29;
    private static final int DIVIDED = 30;
    private static final int LESS = 31;
    private static final int OPEN = 32;
    private static final int CLOSE = 33;
    private static final int TEXT_END = 34;
    private static final int NO_TOKEN = 35;

    // LAWS and VARS, each in the order of its word.
    private static final int WIND_LAW = 0;
    private static final int DRIFTS_LAW = 1;
    private static final int THINS_LAW = 2;
    private static final int GIVES_LAW = 3;
    private static final int LAWS = 4;
    private static final int VAR_FOG = 0;
    private static final int VAR_HOUR = 1;
    private static final int VAR_DAY = 2;
    private static final int VAR_ACROSS = 3;
    private static final int VAR_DOWN = 4;
    private static final int VAR_WHOSE = 5;
    private static final int VAR_STORE = 6;
    private static final int VAR_RATION = 7;
    private static final int VAR_BLOWS = 8;
    private static final int VARS = 9;

    // What the code of a LAW does, step by step.
    private static final int DO_NUMBER = 0;
    private static final int DO_VAR = 1;
    private static final int DO_ADD = 2;
    private static final int DO_SUBTRACT = 3;
    private static final int DO_MULTIPLY = 4;
    private static final int DO_DIVIDE = 5;
    private static final int DO_UNLESS = 6;
    private static final int DO_ANSWER = 7;
    private static final int OPERAND_BITS = 16;
    private static final int OPERAND_MASK = 65535;
    // Four default LAWS have ten steps; a TOKEN of a text has one at most.
    private static final int MOST_CODE = MOST_TOKENS + 20;
    // Seven levels of brackets, at most three things waiting on each.
    private static final int MOST_WAITING = 24;

    private static final long RIGHT_EDGE = 0x8080808080L;
    private static final long LEFT_EDGE = 0x0101010101L;

    private final Tape tape = new Tape();
    private final Tokens tokens = new Tokens();
    private final Grammar grammar = new Grammar();
    private final Drafter drafter = new Drafter();
    private final Sky sky = new Sky();
    private final Going now = new Going();
    private final Going later = new Going();
    private final Past past = new Past();
    private final Going[] slots = new Going[MOST_SLOTS];
    private final boolean[] held = new boolean[MOST_SLOTS];
    private final Hunt hunt = new Hunt();
    private final Guard guard = new Guard();
    private Plan plan = new Plan();
    private Plan draft = new Plan();

    public FogShare() {
        for (int i = 0; i < MOST_SLOTS; i++) {
            slots[i] = new Going();
        }
        now.begin(plan);
    }

    public int feed(int a, int b, int c, int d, int e) {
        if (tape.length + FED_BYTES > MOST_BYTES) {
            return NONE;
        }
        tape.putWord(a);
        tape.putWord(b);
        tape.putWord(c);
        tape.putWord(d);
        tape.putWord(e);
        return tape.length;
    }

    public int back(int n) {
        if (n < 0 || n > tape.length) {
            return NONE;
        }
        tape.length -= n;
        return tape.length;
    }

    public int read() {
        tokens.scan(tape);
        grammar.check(tokens);
        if (tokens.fault == 0) {
            drafter.fillPlan(draft, tokens);
        }
        tape.length = 0;
        if (tokens.fault == 0) {
            beginDraft();
        }
        return tokens.fault;
    }

    public int place() {
        return tokens.place;
    }

    public int cell(int x, int y, int what) {
        int cell = plan.cellAt(x, y);
        if (cell < 0 || cell >= CELLS) {
            return NO_CELL;
        }
        switch (what) {
            case 0:
                return now.fog[cell];
            case 1:
                return now.whose[cell];
            case 2:
                sky.beginHour(plan, now.hour);
                return sky.ofCell(plan, now, cell, DRIFTS_LAW);
            case 3:
                sky.beginHour(plan, now.hour);
                return sky.ofCell(plan, now, cell, THINS_LAW);
            default:
                return NO_CELL;
        }
    }

    public int holding(int holding, int what) {
        if (!plan.hasHolding(holding)) {
            return NO_HOLDING;
        }
        switch (what) {
            case 0:
                return plan.ration[holding];
            case 1:
                return now.store[holding];
            case 2:
                return now.cellsOf(holding);
            case 3:
                return now.fogOf(holding);
            case 4:
                return isOver(holding) ? 1 : 0;
            case 5:
                return now.drew[holding];
            case 6:
                return now.netted(holding);
            default:
                return NO_HOLDING;
        }
    }

    public int use(int use, int what) {
        if (!plan.hasUse(use)) {
            return NONE;
        }
        switch (what) {
            case 0:
                return plan.useOf[use];
            case 1:
                return plan.useFrom[use];
            case 2:
                return plan.useTill[use];
            case 3:
                return plan.useThick[use];
            case 4:
                return plan.isHourOf(use, now.hour) ? 1 : 0;
            default:
                return NONE;
        }
    }

    public int draw(int holding, int x, int y, int n) {
        int cell = plan.cellAt(x, y);
        if (!plan.hasHolding(holding) || cell < 0 || cell >= CELLS || n < 1 || n > MOST_FOG) {
            return NONE;
        }
        if (now.whose[cell] != holding || now.store[holding] < n || now.fog[cell] + n > MOST_FOG) {
            return NOT_SO;
        }
        past.keep(now);
        now.store[holding] -= n;
        now.drew[holding] += n;
        now.fog[cell] += n;
        return now.fog[cell];
    }

    public int lend(int holding, int other, int n) {
        if (!areTwoHoldings(holding, other) || n < 1 || n > MOST_STORE) {
            return NONE;
        }
        if (now.store[holding] < n || now.store[other] + n > MOST_STORE) {
            return NOT_SO;
        }
        past.keep(now);
        now.store[holding] -= n;
        now.store[other] += n;
        now.addLoan(holding, other, n);
        return now.store[holding];
    }

    public boolean move(int x, int y, int holding) {
        int cell = plan.cellAt(x, y);
        if (cell < 0 || cell >= CELLS || holding != NONE && !plan.hasHolding(holding)) {
            return false;
        }
        int owner = holding == NONE ? NOBODY : holding;
        if (now.whose[cell] == owner) {
            return false;
        }
        past.keep(now);
        now.whose[cell] = owner;
        return true;
    }

    public int hours(int n) {
        if (n < 0 || n > MOST_BY_HAND) {
            return NONE;
        }
        if (n > 0) {
            past.keep(now);
            later.copyFrom(now);
            passLater(n, plan.seed);
            now.copyFrom(later);
        }
        return now.hour;
    }

    public boolean undo() {
        return past.giveBack(now);
    }

    public int then(int x, int y, int n) {
        int cell = plan.cellAt(x, y);
        if (cell < 0 || cell >= CELLS || !isAhead(n)) {
            return NONE;
        }
        later.copyFrom(now);
        passLater(n, plan.seed);
        return later.fog[cell];
    }

    public int all(int n, int what, int holding) {
        if (!isAhead(n) || what < 0 || what > 2 || what > 0 && !plan.hasHolding(holding)) {
            return NONE;
        }
        later.copyFrom(now);
        passLater(n, plan.seed);
        if (what == 0) {
            return later.fogOnLand();
        }
        return what == 1 ? later.fogOf(holding) : later.storeOf(holding);
    }

    public int thickest(int n, int what) {
        if (!isAhead(n) || what < 0 || what > 1) {
            return NONE;
        }
        later.copyFrom(now);
        passLater(n, plan.seed);
        int cell = later.thickestCell();
        if (cell < 0 || cell >= CELLS) {
            return NOT_SO;
        }
        return what == 0 ? later.fog[cell] : told(cell);
    }

    public int hid(int x, int y, int n, int thick) {
        int cell = plan.cellAt(x, y);
        if (cell < 0 || cell >= CELLS || n < 1 || !isAhead(n) || !isThick(thick)) {
            return NONE;
        }
        int hours = 0;
        later.copyFrom(now);
        for (int i = 0; i < n; i++) {
            if (later.fog[cell] >= thick) {
                hours++;
            }
            sky.passHour(plan, later, plan.seed, NONE);
        }
        return hours;
    }

    public int lost(int n) {
        if (!isAhead(n)) {
            return NONE;
        }
        later.copyFrom(now);
        passLater(n, plan.seed);
        return now.fogOnLand() - later.fogOnLand();
    }

    public int served(int use, int n) {
        if (!plan.hasUse(use) || !isAhead(n)) {
            return NONE;
        }
        later.copyFrom(now);
        passLater(n, plan.seed);
        return isServed(later, use) ? 1 : 0;
    }

    public int missed(int use, int n) {
        if (!plan.hasUse(use) || n < 1 || !isAhead(n)) {
            return NONE;
        }
        int hours = 0;
        later.copyFrom(now);
        for (int i = 0; i < n; i++) {
            if (!isServed(later, use)) {
                hours++;
            }
            sky.passHour(plan, later, plan.seed, NONE);
        }
        return hours;
    }

    public int over() {
        int bits = 0;
        for (int i = 0; i < MOST_HOLDINGS; i++) {
            if (isOver(i)) {
                bits |= 1 << i;
            }
        }
        return bits;
    }

    public int least(int x, int y, int n, int thick) {
        int cell = plan.cellAt(x, y);
        if (cell < 0 || cell >= CELLS || !isAhead(n) || !isThick(thick)) {
            return NONE;
        }
        int most = MOST_FOG - now.fog[cell];
        for (int more = 0; more <= most; more++) {
            later.copyFrom(now);
            later.fog[cell] += more;
            passLater(n, plan.seed);
            if (later.fog[cell] >= thick) {
                return more;
            }
        }
        return NOT_SO;
    }

    public int unseen(int x, int y, int toX, int toY, int thick) {
        int from = plan.cellAt(x, y);
        int to = plan.cellAt(toX, toY);
        if (from < 0 || to < 0 || !isThick(thick)) {
            return NONE;
        }
        later.copyFrom(now);
        long reached = 1L << from & later.asThick(thick);
        for (int hour = 0; hour <= MOST_UNSEEN && reached != 0; hour++) {
            if ((reached >>> to & 1) != 0) {
                return hour;
            }
            sky.passHour(plan, later, plan.seed, NONE);
            reached = withNeighbours(reached) & later.asThick(thick);
        }
        return NOT_SO;
    }

    public int watch(int from, int to, int thick, int i) {
        int start = plan.toldCell(from);
        int goal = plan.toldCell(to);
        if (start < 0 || goal < 0 || start == goal || !isThick(thick) || i < NONE || i >= MOST_WATCHED) {
            return NONE;
        }
        int many = guard.post(now.asThick(thick), start, goal);
        if (many < 0 || i == NONE) {
            return many;
        }
        return i < many ? told(guard.watchedAt(i)) : NONE;
    }

    public int sight(int x, int y, int thick) {
        if (plan.cellAt(x, y) < 0 || !isThick(thick)) {
            return NONE;
        }
        int seen = 0;
        for (int blows = 1; blows < WINDS; blows++) {
            seen += seenTowards(x, y, blows, thick);
        }
        return seen;
    }

    public int wind(int n) {
        return isAhead(n) ? sky.beginHour(plan, now.hour + n) : NONE;
    }

    public int lent(int holding, int other) {
        return areTwoHoldings(holding, other) ? now.loan(holding, other) : NONE;
    }

    public int gone(int what) {
        if (what < 0 || what > 1) {
            return NONE;
        }
        later.copyFrom(now);
        for (int hour = 0; hour <= MOST_AHEAD; hour++) {
            for (int i = 0; i < plan.holdings; i++) {
                if (later.cellsOf(i) > 0 && later.fogOf(i) == 0) {
                    return what == 0 ? i : hour;
                }
            }
            sky.passHour(plan, later, plan.seed, NONE);
        }
        return NOT_SO;
    }

    public int year(int use, int n, int s) {
        if (!plan.hasUse(use) || !isAhead(n) || s < 1 || s > MOST_SEEDS) {
            return NONE;
        }
        int years = 0;
        for (int i = 0; i < s; i++) {
            later.copyFrom(now);
            passLater(n, plan.seed + i);
            if (isServed(later, use)) {
                years++;
            }
        }
        return years;
    }

    public int tell(int x, int y, int n, int fog) {
        int cell = plan.cellAt(x, y);
        if (cell < 0 || n < 0 || n > LAST_TOLD_HOUR || !isThick(fog)) {
            return NONE;
        }
        return hunt.add(cell, n, fog);
    }

    public int forget() {
        int many = hunt.size;
        hunt.size = 0;
        return many;
    }

    public int leaks(int k) {
        return hunt.knows(k) ? hunt.weigh(plan, sky, k, 0) : NONE;
    }

    public int sure(int k) {
        if (!hunt.knows(k)) {
            return NONE;
        }
        if (hunt.weigh(plan, sky, k, 0) != 1) {
            return NOT_SO;
        }
        int suspect = hunt.firstLeft();
        return suspect == CELLS ? NO_LEAK : told(suspect);
    }

    public int ask(int k, int n) {
        if (!hunt.knows(k) || n < 0 || n > LAST_TOLD_HOUR) {
            return NONE;
        }
        if (hunt.weigh(plan, sky, k, n) == 0) {
            return NOT_SO;
        }
        int cell = hunt.bestCell(plan);
        return cell < 0 ? NOT_SO : told(cell);
    }

    public boolean hold(int slot) {
        if (slot < 0 || slot >= MOST_SLOTS) {
            return false;
        }
        slots[slot].copyFrom(now);
        held[slot] = true;
        return true;
    }

    public boolean restore(int slot) {
        if (slot < 0 || slot >= MOST_SLOTS || !held[slot]) {
            return false;
        }
        now.copyFrom(slots[slot]);
        past.empty();
        return true;
    }

    public int count(int what) {
        switch (what) {
            case 0:
                return plan.across;
            case 1:
                return plan.down;
            case 2:
                return plan.holdings;
            case 3:
                return plan.uses;
            case 4:
                return now.hour;
            case 5:
                return now.fogOnLand();
            case 6:
                return sum(now.store);
            case 7:
                return sum(now.drew);
            case 8:
                return tape.length;
            case 9:
                return past.size;
            case 10:
                return hunt.size;
            case 11:
                return slotsHeld();
            case 12:
                return sky.isGust(plan, plan.seed, now.hour) ? 1 : 0;
            case 13:
                return plan.banks;
            case 14:
                return now.cellsOf(NOBODY);
            case 15:
                return now.cellsWithoutFog();
            case 16:
                return now.hour / DAY_HOURS;
            case 17:
                return sum(plan.ration);
            default:
                return NONE;
        }
    }

    private void beginDraft() {
        Plan spare = plan;
        plan = draft;
        draft = spare;
        now.begin(plan);
        past.empty();
        hunt.size = 0;
        for (int i = 0; i < MOST_SLOTS; i++) {
            held[i] = false;
        }
    }

    private void passLater(int n, int seed) {
        for (int i = 0; i < n; i++) {
            sky.passHour(plan, later, seed, NONE);
        }
    }

    private boolean areTwoHoldings(int holding, int other) {
        return plan.hasHolding(holding) && plan.hasHolding(other) && holding != other;
    }

    private boolean isOver(int holding) {
        return plan.hasHolding(holding) && now.fogOf(holding) > plan.ration[holding];
    }

    private boolean isServed(Going going, int use) {
        if (!plan.hasUse(use)) {
            return false;
        }
        return !plan.isHourOf(use, going.hour) || going.isHidden(plan.useOf[use], plan.useThick[use]);
    }

    private int seenTowards(int x, int y, int blows, int thick) {
        int seen = 0;
        for (int i = 1; i < WIDE; i++) {
            int cell = plan.cellAt(x + i * stepAcross(blows), y + i * stepDown(blows));
            if (cell < 0 || cell >= CELLS || now.fog[cell] >= thick) {
                return seen;
            }
            seen++;
        }
        return seen;
    }

    private int slotsHeld() {
        int many = 0;
        for (int i = 0; i < MOST_SLOTS; i++) {
            if (held[i]) {
                many++;
            }
        }
        return many;
    }

    private static boolean isAhead(int n) {
        return n >= 0 && n <= MOST_AHEAD;
    }

    private static boolean isThick(int thick) {
        return thick >= 0 && thick <= MOST_FOG;
    }

    private static int told(int cell) {
        return 10 * (cell / WIDE) + cell % WIDE;
    }

    private static int stepAcross(int blows) {
        return blows == 1 ? 1 : blows == 3 ? -1 : 0;
    }

    private static int stepDown(int blows) {
        return blows == 2 ? 1 : blows == 4 ? -1 : 0;
    }

    private static long withNeighbours(long cells) {
        long aside = (cells & ~RIGHT_EDGE) << 1 | (cells & ~LEFT_EDGE) >>> 1;
        return cells | aside | cells << WIDE | cells >>> WIDE;
    }

    private static int within(int value, int most) {
        return Math.max(0, Math.min(value, most));
    }

    private static int sum(int[] numbers) {
        int all = 0;
        for (int i = 0; i < numbers.length; i++) {
            all += numbers[i];
        }
        return all;
    }

    private static void copy(int[] from, int[] to) {
        for (int i = 0; i < from.length && i < to.length; i++) {
            to[i] = from[i];
        }
    }

    private static void fill(int[] numbers, int value) {
        for (int i = 0; i < numbers.length; i++) {
            numbers[i] = value;
        }
    }

    /** The bytes that were fed and not yet read. */
    private static final class Tape {
        private final byte[] bytes = new byte[MOST_BYTES];
        private int length;

        private void putWord(int word) {
            for (int shift = 24; shift >= 0; shift -= 8) {
                if (length >= 0 && length < MOST_BYTES) {
                    bytes[length] = (byte) (word >>> shift);
                    length++;
                }
            }
        }

        private int byteAt(int at) {
            return at < 0 || at >= length || at >= MOST_BYTES ? NONE : bytes[at] & 255;
        }
    }

    /** The TOKENS of the text that was read last, and its FAULT. */
    private static final class Tokens {
        private final long[] words = new long[WORD_COUNT];
        private final int[] kinds = new int[MOST_TOKENS + 1];
        private final long[] values = new long[MOST_TOKENS + 1];
        private final int[] places = new int[MOST_TOKENS + 1];
        private int size;
        private int textLength;
        private int fault;
        private int place = NONE;

        private Tokens() {
            int word = 0;
            long key = 0;
            for (int i = 0; i < WORDS.length(); i++) {
                char sign = WORDS.charAt(i);
                if (sign != ' ') {
                    key = keyWith(key, sign);
                } else if (word < WORD_COUNT) {
                    words[word] = key;
                    word++;
                    key = 0;
                }
            }
        }

        /** A 401st TOKEN is kept too: it may be a SYNTAX fault ahead of one of ROOM. */
        private void scan(Tape tape) {
            size = 0;
            fault = 0;
            place = NONE;
            textLength = tape.length;
            int at = 0;
            boolean goesOn = true;
            for (int i = 0; i <= MOST_TOKENS && goesOn; i++) {
                at = scanToken(tape, pastBlanks(tape, at));
                goesOn = kindAt(i) < TEXT_END;
            }
        }

        private void fail(int number, int where) {
            if (fault == 0) {
                fault = number;
                place = where;
            }
        }

        private int kindAt(int index) {
            return index < 0 || index >= size || index > MOST_TOKENS ? TEXT_END : kinds[index];
        }

        private long valueAt(int index) {
            return index < 0 || index >= size || index > MOST_TOKENS ? 0 : values[index];
        }

        private int placeAt(int index) {
            return index < 0 || index >= size || index > MOST_TOKENS ? textLength : places[index];
        }

        private int scanToken(Tape tape, int at) {
            int first = tape.byteAt(at);
            if (isLetter(first)) {
                return scanLetters(tape, at);
            }
            if (isDigit(first)) {
                return scanDigits(tape, at);
            }
            int sign = first == NONE ? -1 : SIGNS.indexOf((char) first);
            if (first == NONE) {
                put(TEXT_END, 0, at);
            } else {
                put(sign < 0 ? NO_TOKEN : SEMICOLON + sign, 0, at);
            }
            return at + 1;
        }

        private int scanLetters(Tape tape, int at) {
            int end = at;
            long key = 0;
            for (int i = 0; i < MOST_BYTES && isLetter(tape.byteAt(end)); i++) {
                key = keyWith(key, tape.byteAt(end));
                end++;
            }
            put(end - at > MOST_LETTERS ? NO_TOKEN : kindOf(key), key, at);
            return end;
        }

        private int scanDigits(Tape tape, int at) {
            int end = at;
            long number = 0;
            for (int i = 0; i < MOST_BYTES && isDigit(tape.byteAt(end)); i++) {
                number = number * 10 + tape.byteAt(end) - '0';
                end++;
            }
            put(end - at > MOST_DIGITS ? NO_TOKEN : INT, number, at);
            return end;
        }

        private void put(int kind, long value, int where) {
            if (size >= 0 && size <= MOST_TOKENS) {
                kinds[size] = kind;
                values[size] = value;
                places[size] = where;
                size++;
            }
        }

        private int kindOf(long key) {
            for (int i = 0; i < WORD_COUNT; i++) {
                if (words[i] == key) {
                    return i;
                }
            }
            return NAME;
        }

        private static int pastBlanks(Tape tape, int at) {
            int end = at;
            for (int i = 0; i < MOST_BYTES && isBlank(tape.byteAt(end)); i++) {
                end++;
            }
            return end;
        }

        private static boolean isBlank(int sign) {
            return sign == 9 || sign == 10 || sign == 13 || sign == 32;
        }

        private static boolean isLetter(int sign) {
            return sign >= 'a' && sign <= 'z';
        }

        private static boolean isDigit(int sign) {
            return sign >= '0' && sign <= '9';
        }

        /** A NAME as one number: five bits a letter, the last letter lowest. */
        private static long keyWith(long key, int letter) {
            return key << 5 | letter - 'a' + 1;
        }

        private static int lettersOf(long key) {
            int letters = 0;
            for (int i = 0; i < MOST_LETTERS && key >>> 5 * i != 0; i++) {
                letters++;
            }
            return letters;
        }
    }

    /** Finds the first FAULT of SYNTAX or ROOM. */
    private static final class Grammar {
        private final int[] tells = new int[BANK + 1];
        private int at;

        private void check(Tokens text) {
            at = 0;
            fill(tells, 0);
            for (int i = 0; i <= MOST_TOKENS && text.fault == 0 && text.kindAt(at) != TEXT_END; i++) {
                checkTell(text, text.kindAt(at));
            }
        }

        private void checkTell(Tokens text, int sort) {
            if (sort > SEED) {
                text.fail(SYNTAX, text.placeAt(at));
                return;
            }
            countTell(text, sort);
            take(text, sort);
            if (sort >= WIND && sort <= GIVES) {
                checkLaw(text);
            } else {
                takeMany(text, NAME, namesOf(sort));
                takeMany(text, INT, numbersOf(sort));
            }
            take(text, SEMICOLON);
        }

        private void countTell(Tokens text, int sort) {
            if (sort >= 0 && sort <= BANK) {
                tells[sort]++;
                if (tells[sort] > mostOf(sort)) {
                    text.fail(ROOM, text.placeAt(at));
                }
            }
        }

        private void checkLaw(Tokens text) {
            take(text, EQUALS);
            for (int ifs = 1; ifs <= MOST_TOKENS && text.fault == 0 && text.kindAt(at) == IF; ifs++) {
                if (ifs > MOST_IFS) {
                    text.fail(ROOM, text.placeAt(at));
                }
                take(text, IF);
                checkSum(text);
                take(text, LESS);
                checkSum(text);
                take(text, THEN);
                checkSum(text);
                take(text, ELSE);
            }
            checkSum(text);
        }

        /** An E: its brackets are only counted, as nothing else depends on how they lie in one another. */
        private void checkSum(Tokens text) {
            int depth = 0;
            boolean unitIsDue = true;
            for (int i = 0; i <= MOST_TOKENS && text.fault == 0; i++) {
                int kind = text.kindAt(at);
                if (unitIsDue && kind == OPEN) {
                    depth++;
                    if (depth > MOST_DEPTH) {
                        text.fail(ROOM, text.placeAt(at));
                    }
                    take(text, OPEN);
                } else if (unitIsDue) {
                    take(text, isUnit(kind) ? kind : INT);
                    unitIsDue = false;
                } else if (isOperator(kind)) {
                    take(text, kind);
                    unitIsDue = true;
                } else if (depth > 0) {
                    take(text, CLOSE);
                    depth--;
                } else {
                    return;
                }
            }
        }

        private void takeMany(Tokens text, int kind, int many) {
            for (int i = 0; i < many; i++) {
                take(text, kind);
            }
        }

        private void take(Tokens text, int kind) {
            if (text.kindAt(at) != kind) {
                text.fail(SYNTAX, text.placeAt(at));
            } else if (at >= MOST_TOKENS) {
                text.fail(ROOM, text.placeAt(at));
            } else {
                at++;
            }
        }

        private static boolean isUnit(int kind) {
            return kind == INT || kind >= FOG && kind <= BLOWS;
        }

        private static boolean isOperator(int kind) {
            return kind >= PLUS && kind <= DIVIDED;
        }

        private static int namesOf(int sort) {
            return sort == USE ? 2 : sort <= HOLDING ? 1 : 0;
        }

        private static int numbersOf(int sort) {
            if (sort == USE || sort == BANK) {
                return 3;
            }
            return sort == ROW ? 0 : sort == HOLDING ? 2 : 1;
        }

        private static int mostOf(int sort) {
            if (sort <= HOLDING) {
                return sort == ROW ? HIGH : MOST_HOLDINGS;
            }
            return sort == USE ? MOST_USES : MOST_BANKS;
        }
    }

    /** Makes a plan of a text without a FAULT of SYNTAX or ROOM, or finds its first FAULT of the other sorts. */
    private static final class Drafter {
        private final long[] holdingNames = new long[MOST_HOLDINGS];
        private final long[] useNames = new long[MOST_USES];
        private int farthestX;
        private int farthestY;
        private int at;

        private void fillPlan(Plan plan, Tokens text) {
            plan.clear();
            farthestX = NONE;
            farthestY = NONE;
            at = 0;
            for (int i = 0; i < MOST_TOKENS && text.fault == 0 && text.kindAt(at) != TEXT_END; i++) {
                fillTell(plan, text, text.kindAt(at));
                skipTell(text);
            }
            if (!plan.hasHoldingsOfAllCells() || farthestX >= plan.across || farthestY >= plan.down) {
                text.fail(LAND, text.textLength);
            }
        }

        private void skipTell(Tokens text) {
            for (int i = 0; i < MOST_TOKENS && text.kindAt(at) < TEXT_END && text.kindAt(at) != SEMICOLON; i++) {
                at++;
            }
            at++;
        }

        private void fillTell(Plan plan, Tokens text, int sort) {
            switch (sort) {
                case ROW:
                    fillRow(plan, text);
                    break;
                case HOLDING:
                    fillHolding(plan, text);
                    break;
                case USE:
                    fillUse(plan, text);
                    break;
                case BANK:
                    fillBank(plan, text);
                    break;
                case GUSTS:
                    plan.gusts = number(text, at + 1, 0, 100);
                    break;
                case LEAK:
                    plan.leak = number(text, at + 1, 0, MOST_FOG);
                    break;
                case SEED:
                    plan.seed = number(text, at + 1, 0, 9999);
                    break;
                default:
                    plan.laws.make(text, at + 2, sort - WIND);
                    break;
            }
        }

        private void fillRow(Plan plan, Tokens text) {
            long letters = text.valueAt(at + 1);
            int across = Tokens.lettersOf(letters);
            if (plan.down > 0 && across != plan.across) {
                text.fail(LAND, text.placeAt(at + 1));
            }
            for (int x = across - 1; x >= 0; x--) {
                int owner = ownerOf((int) (letters & 31));
                letters = letters >>> 5;
                if (owner == NONE) {
                    text.fail(LAND, text.placeAt(at + 1));
                }
                plan.putCell(x, plan.down, owner);
            }
            plan.across = across;
            plan.down++;
        }

        private void fillHolding(Plan plan, Tokens text) {
            checkNew(plan, text, at + 1);
            int ration = number(text, at + 2, 0, MOST_RATION);
            int store = number(text, at + 3, 0, MOST_STORE);
            int holding = plan.holdings;
            if (holding >= 0 && holding < MOST_HOLDINGS) {
                holdingNames[holding] = text.valueAt(at + 1);
                plan.ration[holding] = ration;
                plan.store[holding] = store;
                plan.holdings++;
            }
        }

        private void fillUse(Plan plan, Tokens text) {
            checkNew(plan, text, at + 1);
            int holding = holdingNamed(plan, text.valueAt(at + 2));
            if (holding == NONE) {
                text.fail(UNKNOWN, text.placeAt(at + 2));
            }
            int from = number(text, at + 3, 0, DAY_HOURS - 1);
            int till = number(text, at + 4, from, DAY_HOURS - 1);
            int thick = number(text, at + 5, 1, MOST_FOG);
            int use = plan.uses;
            if (use >= 0 && use < MOST_USES) {
                useNames[use] = text.valueAt(at + 1);
                plan.useOf[use] = holding;
                plan.useFrom[use] = from;
                plan.useTill[use] = till;
                plan.useThick[use] = thick;
                plan.uses++;
            }
        }

        private void fillBank(Plan plan, Tokens text) {
            int x = number(text, at + 1, 0, WIDE - 1);
            int y = number(text, at + 2, 0, HIGH - 1);
            int fog = number(text, at + 3, 0, MOST_FOG);
            if (x >= 0 && x < WIDE && y >= 0 && y < HIGH) {
                plan.fog[y * WIDE + x] = fog;
            }
            farthestX = Math.max(farthestX, x);
            farthestY = Math.max(farthestY, y);
            plan.banks++;
        }

        private int number(Tokens text, int index, int lowest, int highest) {
            int number = (int) text.valueAt(index);
            if (number < lowest || number > highest) {
                text.fail(WRONG, text.placeAt(index));
            }
            return number;
        }

        private void checkNew(Plan plan, Tokens text, int index) {
            long name = text.valueAt(index);
            boolean twice = holdingNamed(plan, name) != NONE;
            for (int i = 0; i < plan.uses && i < MOST_USES; i++) {
                twice = twice || useNames[i] == name;
            }
            if (twice) {
                text.fail(TWICE, text.placeAt(index));
            }
        }

        private int holdingNamed(Plan plan, long name) {
            for (int i = 0; i < plan.holdings && i < MOST_HOLDINGS; i++) {
                if (holdingNames[i] == name) {
                    return i;
                }
            }
            return NONE;
        }

        /** Of a letter counted from 1 on: a .. d, o. */
        private static int ownerOf(int letter) {
            if (letter == 'o' - 'a' + 1) {
                return NOBODY;
            }
            return letter >= 1 && letter <= MOST_HOLDINGS ? letter - 1 : NONE;
        }
    }

    /** The four LAWS of a text as code of a stack machine. */
    private static final class Laws {
        private final int[] code = new int[MOST_CODE];
        private final int[] starts = new int[LAWS];
        private final int[] vars = new int[VARS];
        private final int[] stack = new int[MOST_WAITING];
        private final int[] waiting = new int[MOST_WAITING];
        private int size;
        private int waits;

        private void clear() {
            size = 0;
            startLaw(WIND_LAW);
            add(DO_NUMBER, 0);
            add(DO_ANSWER, 0);
            startLaw(DRIFTS_LAW);
            add(DO_VAR, VAR_FOG);
            add(DO_NUMBER, 4);
            add(DO_DIVIDE, 0);
            add(DO_ANSWER, 0);
            startLaw(THINS_LAW);
            add(DO_NUMBER, 1);
            add(DO_ANSWER, 0);
            startLaw(GIVES_LAW);
            add(DO_VAR, VAR_RATION);
            add(DO_ANSWER, 0);
        }

        /** Of the TOKENS behind the = of a LAW; an operator waits till what stands on its right is made. */
        private void make(Tokens text, int from, int law) {
            int hole = NONE;
            waits = 0;
            startLaw(law);
            for (int at = from; at < MOST_TOKENS && text.kindAt(at) != SEMICOLON; at++) {
                int kind = text.kindAt(at);
                if (kind == THEN) {
                    addWaiting(1);
                    hole = size;
                    add(DO_UNLESS, 0);
                } else if (kind == ELSE) {
                    addWaiting(1);
                    add(DO_ANSWER, 0);
                    aim(hole, size);
                } else {
                    makePart(kind, (int) text.valueAt(at));
                }
            }
            addWaiting(1);
            add(DO_ANSWER, 0);
        }

        private void makePart(int kind, int value) {
            if (kind == INT) {
                add(DO_NUMBER, value);
            } else if (kind >= FOG && kind <= BLOWS) {
                add(DO_VAR, kind - FOG);
            } else if (kind == OPEN) {
                push(OPEN);
            } else if (kind == CLOSE) {
                addWaiting(1);
                waits = Math.max(waits - 1, 0);
            } else if (kind == LESS) {
                addWaiting(1);
            } else if (rank(kind) > 0) {
                addWaiting(rank(kind));
                push(kind);
            }
        }

        private void addWaiting(int lowestRank) {
            for (int i = waits - 1; i >= 0 && i < MOST_WAITING && rank(waiting[i]) >= lowestRank; i--) {
                add(DO_ADD + waiting[i] - PLUS, 0);
                waits = i;
            }
        }

        private void push(int kind) {
            if (waits >= 0 && waits < MOST_WAITING) {
                waiting[waits] = kind;
                waits++;
            }
        }

        private void startLaw(int law) {
            if (law >= 0 && law < LAWS) {
                starts[law] = size;
            }
        }

        private void add(int step, int operand) {
            if (size >= 0 && size < MOST_CODE) {
                code[size] = step << OPERAND_BITS | operand;
                size++;
            }
        }

        private void aim(int hole, int target) {
            if (hole >= 0 && hole < MOST_CODE) {
                code[hole] = DO_UNLESS << OPERAND_BITS | target;
            }
        }

        private static int rank(int kind) {
            if (kind == TIMES || kind == DIVIDED) {
                return 2;
            }
            return kind == PLUS || kind == MINUS ? 1 : 0;
        }

        private void clearVars(int hour) {
            for (int i = 0; i < VARS; i++) {
                vars[i] = 0;
            }
            vars[VAR_HOUR] = hour % DAY_HOURS;
            vars[VAR_DAY] = hour / DAY_HOURS;
        }

        private int answer(int law) {
            int at = law >= 0 && law < LAWS ? starts[law] : 0;
            int top = 0;
            for (int steps = 0; steps < MOST_CODE; steps++) {
                if (at < 0 || at >= MOST_CODE || top < 0 || top >= MOST_WAITING) {
                    return 0;
                }
                int step = code[at] >> OPERAND_BITS;
                int operand = code[at] & OPERAND_MASK;
                at++;
                if (step == DO_NUMBER) {
                    stack[top] = operand;
                    top++;
                } else if (step == DO_VAR) {
                    stack[top] = operand < VARS ? vars[operand] : 0;
                    top++;
                } else if (step == DO_ANSWER || top < 2) {
                    return top == 1 ? stack[0] : 0;
                } else if (step == DO_UNLESS) {
                    top -= 2;
                    at = stack[top] < stack[top + 1] ? at : operand;
                } else if (step == DO_DIVIDE && stack[top - 1] == 0) {
                    return 0;
                } else {
                    top--;
                    stack[top - 1] = joined(step, stack[top - 1], stack[top]);
                }
            }
            return 0;
        }

        private static int joined(int step, int left, int right) {
            switch (step) {
                case DO_ADD:
                    return left + right;
                case DO_SUBTRACT:
                    return left - right;
                case DO_MULTIPLY:
                    return left * right;
                default:
                    return right == 0 ? 0 : left / right;
            }
        }
    }

    /** What a text tells. */
    private static final class Plan {
        private int across;
        private int down;
        private int holdings;
        private int uses;
        private int banks;
        private int gusts;
        private int leak;
        private int seed;
        private final int[] whose = new int[CELLS];
        private final int[] fog = new int[CELLS];
        private final int[] ration = new int[MOST_HOLDINGS];
        private final int[] store = new int[MOST_HOLDINGS];
        private final int[] useOf = new int[MOST_USES];
        private final int[] useFrom = new int[MOST_USES];
        private final int[] useTill = new int[MOST_USES];
        private final int[] useThick = new int[MOST_USES];
        private final Laws laws = new Laws();

        private Plan() {
            clear();
        }

        private void clear() {
            across = 0;
            down = 0;
            holdings = 0;
            uses = 0;
            banks = 0;
            gusts = 0;
            leak = 3;
            seed = 0;
            fill(whose, OFF_LAND);
            fill(fog, 0);
            fill(ration, 0);
            fill(store, 0);
            laws.clear();
        }

        private void putCell(int x, int y, int owner) {
            if (x >= 0 && x < WIDE && y >= 0 && y < HIGH) {
                whose[y * WIDE + x] = owner;
            }
        }

        private int cellAt(int x, int y) {
            return x < 0 || x >= across || y < 0 || y >= down ? NONE : y * WIDE + x;
        }

        /** Of a CELL told as 10 * Y + X. */
        private int toldCell(int place) {
            return place < 0 ? NONE : cellAt(place % 10, place / 10);
        }

        private boolean isLand(int cell) {
            return cell >= 0 && cell < CELLS && whose[cell] != OFF_LAND;
        }

        private boolean hasHolding(int holding) {
            return holding >= 0 && holding < holdings && holding < MOST_HOLDINGS;
        }

        private boolean hasHoldingsOfAllCells() {
            for (int i = 0; i < CELLS; i++) {
                if (whose[i] >= holdings && whose[i] != NOBODY) {
                    return false;
                }
            }
            return true;
        }

        private boolean hasUse(int use) {
            return use >= 0 && use < uses && use < MOST_USES;
        }

        private boolean isHourOf(int use, int hour) {
            int hourOfDay = hour % DAY_HOURS;
            return hasUse(use) && useFrom[use] <= hourOfDay && hourOfDay <= useTill[use];
        }
    }

    /** All that goes on; a CELL off the land is OFF_LAND's and has no FOG. */
    private static final class Going {
        private int hour;
        private final int[] fog = new int[CELLS];
        private final int[] whose = new int[CELLS];
        private final int[] store = new int[MOST_HOLDINGS];
        private final int[] drew = new int[MOST_HOLDINGS];
        private final int[] loans = new int[MOST_HOLDINGS * MOST_HOLDINGS];

        private void begin(Plan plan) {
            hour = 0;
            copy(plan.fog, fog);
            copy(plan.whose, whose);
            copy(plan.store, store);
            fill(drew, 0);
            fill(loans, 0);
        }

        private void copyFrom(Going other) {
            hour = other.hour;
            copy(other.fog, fog);
            copy(other.whose, whose);
            copy(other.store, store);
            copy(other.drew, drew);
            copy(other.loans, loans);
        }

        private int fogOnLand() {
            return sum(fog);
        }

        private int fogOf(int holding) {
            int all = 0;
            for (int i = 0; i < CELLS; i++) {
                if (whose[i] == holding) {
                    all += fog[i];
                }
            }
            return all;
        }

        private int cellsOf(int holding) {
            int many = 0;
            for (int i = 0; i < CELLS; i++) {
                if (whose[i] == holding) {
                    many++;
                }
            }
            return many;
        }

        private int cellsWithoutFog() {
            int many = 0;
            for (int i = 0; i < CELLS; i++) {
                if (whose[i] != OFF_LAND && fog[i] == 0) {
                    many++;
                }
            }
            return many;
        }

        private int thickestCell() {
            int best = NONE;
            int most = -1;
            for (int i = 0; i < CELLS; i++) {
                if (whose[i] != OFF_LAND && fog[i] > most) {
                    best = i;
                    most = fog[i];
                }
            }
            return best;
        }

        private long asThick(int thick) {
            long cells = 0;
            for (int i = 0; i < CELLS; i++) {
                if (whose[i] != OFF_LAND && fog[i] >= thick) {
                    cells |= 1L << i;
                }
            }
            return cells;
        }

        private boolean isHidden(int holding, int thick) {
            int many = 0;
            for (int i = 0; i < CELLS; i++) {
                if (whose[i] == holding) {
                    many++;
                    if (fog[i] < thick) {
                        return false;
                    }
                }
            }
            return many > 0;
        }

        private int storeOf(int holding) {
            return holding >= 0 && holding < MOST_HOLDINGS ? store[holding] : 0;
        }

        private int loan(int holding, int other) {
            int row = holding * MOST_HOLDINGS + other;
            return row >= 0 && row < MOST_HOLDINGS * MOST_HOLDINGS ? loans[row] : 0;
        }

        private void addLoan(int holding, int other, int n) {
            int row = holding * MOST_HOLDINGS + other;
            if (row >= 0 && row < MOST_HOLDINGS * MOST_HOLDINGS) {
                loans[row] += n;
            }
        }

        private int netted(int holding) {
            int net = 0;
            for (int i = 0; i < MOST_HOLDINGS; i++) {
                net += loan(holding, i) - loan(i, holding);
            }
            return net;
        }
    }

    /** Lets HOURS go by as the LAWS of a plan tell. */
    private static final class Sky {
        private final int[] moved = new int[CELLS];

        private void passHour(Plan plan, Going going, int seed, int leaking) {
            int blows = beginHour(plan, going.hour);
            if (blows > 0) {
                step(plan, going, blows);
                if (isGust(plan, seed, going.hour)) {
                    step(plan, going, blows);
                }
            }
            thinAll(plan, going, leaking);
            going.hour++;
            if (going.hour % DAY_HOURS == 0) {
                giveAll(plan, going);
            }
        }

        /** What WIND tells; the VARS that are the same for all CELLS in this hour are set for them. */
        private int beginHour(Plan plan, int hour) {
            Laws laws = plan.laws;
            laws.clearVars(hour);
            int blows = Math.max(laws.answer(WIND_LAW) % WINDS, 0);
            laws.vars[VAR_BLOWS] = blows;
            return blows;
        }

        private boolean isGust(Plan plan, int seed, int hour) {
            int h = mixed(mixed(seed, 105), 4 * hour);
            return (h >>> 1) % 100 < plan.gusts;
        }

        private static int mixed(int h, int with) {
            int product = (h ^ with) * 1103515245 + 12345;
            return product ^ product >>> 15;
        }

        private void step(Plan plan, Going going, int blows) {
            fill(moved, 0);
            for (int cell = 0; cell < CELLS; cell++) {
                int fog = going.fog[cell];
                if (fog > 0) {
                    int goes = ofCell(plan, going, cell, DRIFTS_LAW);
                    int next = plan.cellAt(cell % WIDE + stepAcross(blows), cell / WIDE + stepDown(blows));
                    moved[cell] += fog - goes;
                    if (next >= 0 && next < CELLS) {
                        moved[next] += goes;
                    }
                }
            }
            copy(moved, going.fog);
        }

        private void thinAll(Plan plan, Going going, int leaking) {
            for (int cell = 0; cell < CELLS; cell++) {
                if (going.fog[cell] > 0) {
                    int stays = going.fog[cell] - ofCell(plan, going, cell, THINS_LAW);
                    going.fog[cell] = within(cell == leaking ? stays - plan.leak : stays, MOST_FOG);
                }
            }
        }

        /** What DRIFTS or THINS of a CELL in the hour that is begun, held to the FOG there. */
        private int ofCell(Plan plan, Going going, int cell, int law) {
            if (cell < 0 || cell >= CELLS) {
                return 0;
            }
            Laws laws = plan.laws;
            laws.vars[VAR_FOG] = going.fog[cell];
            laws.vars[VAR_ACROSS] = cell % WIDE;
            laws.vars[VAR_DOWN] = cell / WIDE;
            laws.vars[VAR_WHOSE] = going.whose[cell];
            return within(laws.answer(law), going.fog[cell]);
        }

        private void giveAll(Plan plan, Going going) {
            Laws laws = plan.laws;
            laws.clearVars(going.hour);
            for (int i = 0; i < plan.holdings && i < MOST_HOLDINGS; i++) {
                laws.vars[VAR_WHOSE] = i;
                laws.vars[VAR_STORE] = going.store[i];
                laws.vars[VAR_RATION] = plan.ration[i];
                laws.vars[VAR_FOG] = going.fogOf(i);
                going.store[i] = Math.min(going.store[i] + within(laws.answer(GIVES_LAW), MOST_GIVEN), MOST_STORE);
            }
        }
    }

    /** The states ahead of the last things done, in a ring. */
    private static final class Past {
        private final Going[] ring = new Going[MOST_UNDONE];
        private int next;
        private int size;

        private Past() {
            for (int i = 0; i < MOST_UNDONE; i++) {
                ring[i] = new Going();
            }
        }

        private void empty() {
            size = 0;
        }

        private void keep(Going now) {
            if (next >= 0 && next < MOST_UNDONE) {
                ring[next].copyFrom(now);
                next = (next + 1) % MOST_UNDONE;
                size = Math.min(size + 1, MOST_UNDONE);
            }
        }

        private boolean giveBack(Going now) {
            int last = (next + MOST_UNDONE - 1) % MOST_UNDONE;
            if (size <= 0 || last < 0) {
                return false;
            }
            now.copyFrom(ring[last]);
            next = last;
            size--;
            return true;
        }
    }

    /** What is TOLD, and which suspects it leaves: a CELL that leaks, or (CELLS) none. */
    private static final class Hunt {
        private final int[] cells = new int[MOST_TOLD];
        private final int[] hours = new int[MOST_TOLD];
        private final int[] fogs = new int[MOST_TOLD];
        private int size;
        private final Going trial = new Going();
        private final boolean[] left = new boolean[CELLS + 1];
        private final int[] fogThen = new int[(CELLS + 1) * CELLS];
        private final int[] alike = new int[MOST_FOG + 1];

        private boolean knows(int k) {
            return k >= 0 && k <= size;
        }

        private int add(int cell, int hour, int fog) {
            if (size < 0 || size >= MOST_TOLD) {
                return NONE;
            }
            cells[size] = cell;
            hours[size] = hour;
            fogs[size] = fog;
            size++;
            return size - 1;
        }

        /** How many suspects are left by the first k; how FOG lies with each in that hour is kept. */
        private int weigh(Plan plan, Sky sky, int k, int hour) {
            int many = 0;
            int last = hour;
            for (int i = 0; i < k && i < MOST_TOLD; i++) {
                last = Math.max(last, hours[i]);
            }
            for (int i = 0; i <= CELLS; i++) {
                left[i] = i == CELLS || plan.isLand(i);
                trial.begin(plan);
                for (int h = 0; h <= last && left[i]; h++) {
                    left[i] = agrees(k, h);
                    if (h == hour) {
                        keepFog(i);
                    }
                    sky.passHour(plan, trial, plan.seed, i);
                }
                many += left[i] ? 1 : 0;
            }
            return many;
        }

        private boolean agrees(int k, int hour) {
            for (int i = 0; i < k && i < MOST_TOLD; i++) {
                int cell = cells[i];
                if (hours[i] == hour && cell >= 0 && cell < CELLS && trial.fog[cell] != fogs[i]) {
                    return false;
                }
            }
            return true;
        }

        private void keepFog(int suspect) {
            for (int i = 0; i < CELLS; i++) {
                int at = suspect * CELLS + i;
                if (at >= 0 && at < (CELLS + 1) * CELLS) {
                    fogThen[at] = trial.fog[i];
                }
            }
        }

        private int firstLeft() {
            for (int i = 0; i < CELLS; i++) {
                if (left[i]) {
                    return i;
                }
            }
            return CELLS;
        }

        private int bestCell(Plan plan) {
            int best = NONE;
            int fewest = CELLS + 2;
            for (int i = 0; i < CELLS; i++) {
                int worst = plan.isLand(i) ? mostAlike(i) : CELLS + 2;
                if (worst < fewest) {
                    best = i;
                    fewest = worst;
                }
            }
            return best;
        }

        private int mostAlike(int cell) {
            int most = 0;
            fill(alike, 0);
            for (int i = 0; i <= CELLS; i++) {
                int at = i * CELLS + cell;
                if (left[i] && at >= 0 && at < (CELLS + 1) * CELLS) {
                    int fog = within(fogThen[at], MOST_FOG);
                    alike[fog]++;
                    most = Math.max(most, alike[fog]);
                }
            }
            return most;
        }
    }

    /** Finds the fewest CELLS to watch; sets of CELLS are bits of a long. */
    private static final class Guard {
        private final int[] watched = new int[MOST_WATCHED];
        private long open;
        private long start;
        private long goal;

        private int post(long asThick, int from, int to) {
            open = asThick;
            start = 1L << from;
            goal = 1L << to;
            if (cuts(0)) {
                return 0;
            }
            if (postOne()) {
                return 1;
            }
            if (postTwo()) {
                return 2;
            }
            return postThree() ? 3 : NOT_SO;
        }

        private int watchedAt(int i) {
            return i >= 0 && i < MOST_WATCHED ? watched[i] : NONE;
        }

        private boolean postOne() {
            for (int a = 0; a < CELLS; a++) {
                if (canBeWatched(a) && cuts(1L << a)) {
                    watched[0] = a;
                    return true;
                }
            }
            return false;
        }

        private boolean postTwo() {
            for (int a = 0; a < CELLS; a++) {
                for (int b = a + 1; canBeWatched(a) && b < CELLS; b++) {
                    if (canBeWatched(b) && cuts(1L << a | 1L << b)) {
                        watched[0] = a;
                        watched[1] = b;
                        return true;
                    }
                }
            }
            return false;
        }

        private boolean postThree() {
            for (int a = 0; a < CELLS; a++) {
                for (int b = a + 1; canBeWatched(a) && b < CELLS; b++) {
                    for (int c = b + 1; canBeWatched(b) && c < CELLS; c++) {
                        if (canBeWatched(c) && cuts(1L << a | 1L << b | 1L << c)) {
                            watched[0] = a;
                            watched[1] = b;
                            watched[2] = c;
                            return true;
                        }
                    }
                }
            }
            return false;
        }

        /** A CELL that is not as THICK stands on no way, so it would be watched in vain. */
        private boolean canBeWatched(int cell) {
            return ((open & ~start & ~goal) >>> cell & 1) != 0;
        }

        private boolean cuts(long watching) {
            long free = open & ~watching;
            long reached = start & free;
            for (int i = 0; i < CELLS; i++) {
                long more = withNeighbours(reached) & free;
                if ((more & goal) != 0) {
                    return false;
                }
                if (more == reached) {
                    return true;
                }
                reached = more;
            }
            return true;
        }
    }
}
