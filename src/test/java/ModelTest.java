import java.util.Random;

/** Random runs of calls, by fixed seeds, on FogShare and on Model: each answer must be the same. */
public final class ModelTest {
    private final Random random;
    private final Texts texts;
    private final FogShare fog = new FogShare();
    private final Model model = new Model();
    private final StringBuilder story = new StringBuilder();
    private int calls = 0;
    private boolean same = true;

    private ModelTest(long seed) {
        random = new Random(seed);
        texts = new Texts(random);
    }

    public static void main(String[] args) {
        int runs = args.length > 1 ? Integer.parseInt(args[1]) : 1500;
        long first = args.length > 2 ? Long.parseLong(args[2]) : 1;
        int wrong = 0;
        for (long seed = first; seed < first + runs && wrong < 5; seed++) {
            ModelTest test = new ModelTest(seed);
            if (!test.run()) {
                wrong++;
                System.out.println("seed " + seed + test.story);
            }
        }
        System.out.println("ModelTest: " + runs + " runs, " + wrong + " not as the model tells");
        if (wrong > 0) {
            System.exit(1);
        }
    }

    private boolean run() {
        int readings = 1 + random.nextInt(4);
        for (int i = 0; i < readings && calls < 400 && same; i++) {
            read();
            int more = random.nextInt(120);
            for (int k = 0; k < more && calls < 512 && same; k++) {
                call(random.nextInt(60));
            }
        }
        return same;
    }

    private void due(String call, int got, int want) {
        calls++;
        story.append('\n').append(call).append(" = ").append(got);
        if (got != want) {
            same = false;
            story.append(", due is ").append(want);
        }
    }

    private void due(String call, boolean got, boolean want) {
        due(call, got ? 1 : 0, want ? 1 : 0);
    }

    private void read() {
        int kind = random.nextInt(12);
        String text = texts.spaced(kind < 7 ? texts.sound() : kind < 11 ? texts.spoiled() : texts.long400());
        for (int at = 0; at < text.length(); at += 20) {
            int[] w = new int[5];
            for (int i = 0; i < 20; i++) {
                w[i / 4] = w[i / 4] << 8 | (at + i < text.length() ? text.charAt(at + i) : ' ');
            }
            due("feed", fog.feed(w[0], w[1], w[2], w[3], w[4]), model.feed(w[0], w[1], w[2], w[3], w[4]));
        }
        int back = (20 - text.length() % 20) % 20;
        due("back", fog.back(back), model.back(back));
        due("read of " + text, fog.read(), model.read());
        due("place", fog.place(), model.place());
    }

    /** Of a range: mostly inside, now and then a little outside or far off. */
    private int in(int low, int high) {
        int kind = random.nextInt(25);
        if (kind == 0) {
            return random.nextBoolean() ? low - 1 : high + 1;
        }
        return kind == 1 && random.nextInt(4) == 0 ? random.nextInt() : low + random.nextInt(high - low + 1);
    }

    private int x() {
        return in(0, Math.max(0, model.count(0) - 1));
    }

    private int y() {
        return in(0, Math.max(0, model.count(1) - 1));
    }

    private int holding() {
        return in(0, Math.max(0, model.count(2) - 1));
    }

    private int use() {
        return in(0, Math.max(0, model.count(3) - 1));
    }

    private int thick() {
        return random.nextInt(3) > 0 ? in(0, 12) : in(0, 99);
    }

    private int ahead() {
        return random.nextInt(4) > 0 ? in(0, 9) : in(0, 72);
    }

    private void call(int kind) {
        if (kind < 16) {
            look(kind);
        } else if (kind < 40) {
            byHand(kind);
        } else {
            wouldBe(kind);
        }
    }

    private void look(int kind) {
        int x = x();
        int y = y();
        int h = holding();
        int u = use();
        int what = in(0, 6);
        switch (kind) {
            case 0: case 1: case 2:
                int c = in(0, 4);
                due("cell " + x + " " + y + " " + c, fog.cell(x, y, c), model.cell(x, y, c));
                break;
            case 3: case 4: case 5:
                due("holding " + h + " " + what, fog.holding(h, what), model.holding(h, what));
                break;
            case 6: case 7:
                due("use " + u + " " + what, fog.use(u, what), model.use(u, what));
                break;
            case 8:
                due("over", fog.over(), model.over());
                break;
            case 9:
                int n = ahead();
                due("wind " + n, fog.wind(n), model.wind(n));
                break;
            case 10:
                int o = holding();
                due("lent " + h + " " + o, fog.lent(h, o), model.lent(h, o));
                break;
            case 11: case 12: case 13:
                for (int i = -1; i < 19; i++) {
                    if (random.nextInt(4) == 0) {
                        due("count " + i, fog.count(i), model.count(i));
                    }
                }
                break;
            case 14:
                due("place", fog.place(), model.place());
                break;
            default:
                int t = thick();
                due("sight " + x + " " + y + " " + t, fog.sight(x, y, t), model.sight(x, y, t));
                break;
        }
    }

    private void byHand(int kind) {
        int x = x();
        int y = y();
        int h = holding();
        int n = random.nextBoolean() ? in(1, 9) : in(1, 99);
        switch (kind) {
            case 16: case 17: case 18: case 19: case 20: case 21:
                if (random.nextInt(3) > 0 && model.cell(x, y, 1) >= 0) {
                    h = model.cell(x, y, 1);
                }
                due("draw " + h + " " + x + " " + y + " " + n, fog.draw(h, x, y, n), model.draw(h, x, y, n));
                break;
            case 22: case 23: case 24:
                int other = holding();
                int much = in(1, random.nextBoolean() ? 30 : 999);
                due("lend " + h + " " + other + " " + much, fog.lend(h, other, much), model.lend(h, other, much));
                break;
            case 25: case 26: case 27:
                int to = in(-1, 3);
                due("move " + x + " " + y + " " + to, fog.move(x, y, to), model.move(x, y, to));
                break;
            case 28: case 29: case 30:
                int hours = random.nextInt(4) > 0 ? in(0, 3) : in(0, 48);
                due("hours " + hours, fog.hours(hours), model.hours(hours));
                break;
            case 31: case 32:
                due("undo", fog.undo(), model.undo());
                break;
            case 33:
                int slot = in(0, 2);
                due("hold " + slot, fog.hold(slot), model.hold(slot));
                break;
            case 34:
                int from = in(0, 2);
                due("restore " + from, fog.restore(from), model.restore(from));
                break;
            case 35: case 36: case 37: case 38:
                told();
                break;
            default:
                if (random.nextInt(6) == 0) {
                    due("forget", fog.forget(), model.forget());
                }
                break;
        }
    }

    /** Mostly what is so on the land with some suspect, so that something is left. */
    private void told() {
        int x = x();
        int y = y();
        int n = in(0, random.nextBoolean() ? 3 : 24);
        int f = in(0, random.nextBoolean() ? 5 : 99);
        if (random.nextInt(4) > 0 && model.count(4) == 0 && model.count(9) == 0) {
            f = Math.max(0, model.then(x, y, Math.max(0, Math.min(72, n))) - (random.nextInt(4) == 0 ? 3 : 0));
        }
        due("tell " + x + " " + y + " " + n + " " + f, fog.tell(x, y, n, f), model.tell(x, y, n, f));
    }

    private void wouldBe(int kind) {
        int x = x();
        int y = y();
        int n = ahead();
        int t = thick();
        int u = use();
        switch (kind) {
            case 40:
                due("then " + x + " " + y + " " + n, fog.then(x, y, n), model.then(x, y, n));
                break;
            case 41:
                int what = in(0, 2);
                int h = holding();
                due("all " + n + " " + what + " " + h, fog.all(n, what, h), model.all(n, what, h));
                break;
            case 42:
                int w = in(0, 1);
                due("thickest " + n + " " + w, fog.thickest(n, w), model.thickest(n, w));
                break;
            case 43:
                due("hid " + x + " " + y + " " + n + " " + t, fog.hid(x, y, n, t), model.hid(x, y, n, t));
                break;
            case 44:
                due("lost " + n, fog.lost(n), model.lost(n));
                break;
            case 45: case 46:
                due("served " + u + " " + n, fog.served(u, n), model.served(u, n));
                break;
            case 47: case 48:
                due("missed " + u + " " + n, fog.missed(u, n), model.missed(u, n));
                break;
            case 49:
                n = n > 9 && n < 73 && random.nextInt(5) > 0 ? n % 10 : n;
                due("least " + x + " " + y + " " + n + " " + t, fog.least(x, y, n, t), model.least(x, y, n, t));
                break;
            case 50: case 51: case 52:
                int x2 = x();
                int y2 = y();
                due("unseen " + x + " " + y + " " + x2 + " " + y2 + " " + t, fog.unseen(x, y, x2, y2, t),
                    model.unseen(x, y, x2, y2, t));
                break;
            case 53: case 54:
                watch(10 * y + x, 10 * y() + x(), t);
                break;
            case 55:
                int g = in(0, 1);
                due("gone " + g, fog.gone(g), model.gone(g));
                break;
            case 56:
                int s = in(1, 20);
                due("year " + u + " " + n + " " + s, fog.year(u, n, s), model.year(u, n, s));
                break;
            default:
                hunt(kind);
                break;
        }
    }

    private void watch(int from, int to, int thick) {
        int most = model.count(0) * model.count(1) > 20 && random.nextInt(10) > 0 ? 0 : 1;
        for (int i = -2; i < 4 * most; i++) {
            if (random.nextInt(2) == 0) {
                due("watch " + from + " " + to + " " + thick + " " + i, fog.watch(from, to, thick, i),
                    model.watch(from, to, thick, i));
            }
        }
    }

    private void hunt(int kind) {
        int k = in(0, Math.max(0, model.count(10)));
        int n = in(0, random.nextBoolean() ? 4 : 24);
        switch (kind) {
            case 57:
                due("leaks " + k, fog.leaks(k), model.leaks(k));
                break;
            case 58:
                due("sure " + k, fog.sure(k), model.sure(k));
                break;
            default:
                due("ask " + k + " " + n, fog.ask(k, n), model.ask(k, n));
                break;
        }
    }
}
