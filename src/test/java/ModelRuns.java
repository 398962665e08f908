import java.util.Random;

/** Drawn runs of calls on ApplesFall and on Model at once: each answer must be the same. */
public final class ModelRuns {
    private static final int RUNS = 400, CALLS = 500;
    private static final int[] EDGES = {Integer.MIN_VALUE, Integer.MIN_VALUE + 1, -100, -2, -1, 0, 1, 2, 3, 4, 5, 6,
        9, 10, 11, 12, 19, 20, 21, 29, 30, 39, 40, 41, 99, 100, 255, 256, 999, 1000, 4095, 4096, 65536,
        Integer.MAX_VALUE - 1, Integer.MAX_VALUE};
    private static final String[] WORDS = {"falls", "ripens", "takes", "or", "and", "not", "fact", "ripe", "number",
        "day", "known", "apples", "(", ")", ";", "+", "-", "*", "<", "=", "0", "1", "7", "20", "9999", "10000",
        "x", "A", "\t", "fac", "notfact", "00001"};
    private static final String[] NAMES = {"fact", "ripe", "number", "day", "known", "apples"};

    private final Random random;
    private final ApplesFall real = new ApplesFall();
    private final Model model = new Model();
    private final StringBuilder log = new StringBuilder();
    private int wrong = 0;
    private int calls = 0;

    private ModelRuns(int run) {
        random = new Random(run);
    }

    public static void main(String[] args) {
        int wrong = 0;
        for (int run = 0; run < RUNS && wrong == 0; run++) {
            ModelRuns one = new ModelRuns(run);
            one.play(run);
            wrong += one.wrong;
        }
        System.out.println(wrong == 0 ? "all drawn runs are as the model's" : "a drawn run is not as the model's");
        if (wrong != 0) {
            System.exit(1);
        }
    }

    private void play(int run) {
        boolean wild = run % 8 == 7;
        for (int i = random.nextInt(9); i > 0; i--) {
            learns();
        }
        for (int i = random.nextInt(5); i > 0; i--) {
            house();
        }
        if (random.nextInt(3) > 0) {
            text();
            int t = model.count(3) - 1;
            due("force(" + t + ")", real.force(t), model.force(t));
        }
        while (calls < CALLS && wrong == 0) {
            step(random.nextInt(28), wild && random.nextInt(2) == 0);
        }
    }

    private void due(String call, long got, long want) {
        calls++;
        log.append(call).append(" = ").append(got).append('\n');
        if (got != want) {
            wrong++;
            System.out.println(log + "the model's answer: " + want);
        }
    }

    private int any(int least, int most, boolean wild) {
        if (wild || random.nextInt(40) == 0) {
            return random.nextInt(4) == 0 ? random.nextInt() : EDGES[random.nextInt(EDGES.length)];
        }
        return least + random.nextInt(most - least + 1);
    }

    private int few() {
        int bits = 0;
        for (int i = random.nextInt(4); i > 0; i--) {
            bits |= 1 << random.nextInt(12);
        }
        return bits;
    }

    private int aHouse(boolean wild) {
        return any(0, Math.max(0, model.count(0) - (random.nextInt(20) == 0 ? 0 : 1)), wild);
    }

    private void learns() {
        int from = few();
        int fact = random.nextInt(12);
        due("learns(" + from + ", " + fact + ")", real.learns(from, fact), model.learns(from, fact));
    }

    private void house() {
        int kind = random.nextInt(6);
        int number = random.nextInt(10);
        due("house(" + kind + ", " + number + ")", real.house(kind, number), model.house(kind, number));
    }

    private String expression(int depth) {
        int of = depth <= 0 ? random.nextInt(2) : random.nextInt(14);
        String a = of < 2 ? "" : expression(depth - 1);
        String b = of < 2 ? "" : expression(depth - 1);
        switch (of) {
            case 0:
                return String.valueOf(random.nextInt(30));
            case 1:
            case 2:
                return NAMES[random.nextInt(6)];
            case 3:
                return "(" + a + ")";
            case 4:
                return "-" + a;
            case 5:
                return "not " + a;
            case 6:
                return a + " or " + b;
            case 7:
                return a + " and " + b;
            case 8:
                return a + "<" + b;
            case 9:
                return a + "=" + b;
            case 10:
                return a + "*" + b;
            case 11:
                return a + " - " + b;
            default:
                return a + "+" + b;
        }
    }

    private void text() {
        StringBuilder t = new StringBuilder();
        int sort = random.nextInt(6);
        if (sort == 0) {
            for (int i = random.nextInt(12); i > 0; i--) {
                t.append(WORDS[random.nextInt(WORDS.length)]).append(random.nextBoolean() ? " " : "\n");
            }
        } else {
            t.append("falls ").append(expression(3)).append(";ripens ").append(expression(2));
            t.append(" ;takes ").append(expression(2)).append("; ");
        }
        if (sort == 1 && t.length() > 0) {
            int i = random.nextInt(t.length());
            t.replace(i, i + random.nextInt(2), WORDS[random.nextInt(WORDS.length)]);
        }
        if (t.length() > 160) {
            t.setLength(160);
        }
        for (int i = 0; i < t.length(); i++) {
            int c = t.charAt(i);
            int got = real.feed(c);
            calls++;
            if (got != model.feed(c)) {
                due("feed(" + c + ")", got, 0);
            }
        }
        log.append("text: ").append(t).append('\n');
        due("text()", real.text(), model.text());
    }

    private void step(int which, boolean wild) {
        int h = aHouse(wild);
        int f = any(0, 11, wild);
        int n = any(0, random.nextInt(4) == 0 ? 40 : 12, wild);
        switch (which) {
            case 0: {
                int from = wild ? any(0, 4095, true) : few();
                due("learns(" + from + ", " + f + ")", real.learns(from, f), model.learns(from, f));
                break;
            }
            case 1: {
                int what = any(0, 4, wild);
                int v = any(0, what == 0 ? 999 : what == 1 ? 9 : what == 2 ? 4095 : 99, wild);
                v = what == 2 && !wild ? few() : v;
                due("set(" + what + ", " + h + ", " + v + ")", real.set(what, h, v), model.set(what, h, v));
                break;
            }
            case 2: {
                int kind = any(0, 5, wild);
                int number = any(0, 9, wild);
                due("house(" + kind + ", " + number + ")", real.house(kind, number), model.house(kind, number));
                break;
            }
            case 3:
            case 4: {
                int what = any(0, 11, wild);
                due("told(" + h + ", " + what + ")", real.told(h, what), model.told(h, what));
                break;
            }
            case 5: {
                int c = any(32, 122, wild);
                due("feed(" + c + ")", real.feed(c), model.feed(c));
                due("text()", real.text(), model.text());
                break;
            }
            case 6:
                if (calls < CALLS - 170) {
                    text();
                }
                break;
            case 7: {
                int t = any(0, model.count(3), wild);
                due("force(" + t + ")", real.force(t), model.force(t));
                break;
            }
            case 8: {
                int set = wild ? any(0, 4095, true) : few();
                int what = any(0, 2, wild);
                due("follows(" + set + ", " + what + ")", real.follows(set, what), model.follows(set, what));
                break;
            }
            case 9: {
                int what = any(0, 31, wild);
                due("laws(" + what + ")", real.laws(what), model.laws(what));
                break;
            }
            case 10:
                due("tell(" + h + ", " + f + ")", real.tell(h, f), model.tell(h, f));
                break;
            case 11:
                due("day()", real.day(), model.day());
                break;
            case 12: {
                int what = any(0, 3, wild);
                due("run(" + h + ", " + n + ", " + what + ")", real.run(h, n, what), model.run(h, n, what));
                break;
            }
            case 13: {
                int what = any(0, 4, wild);
                due("asks(" + h + ", " + f + ", " + what + ")", real.asks(h, f, what), model.asks(h, f, what));
                break;
            }
            case 14: {
                int what = any(0, 1, wild);
                due("best(" + h + ", " + n + ", " + what + ")", real.best(h, n, what), model.best(h, n, what));
                break;
            }
            case 15: {
                int what = any(0, 1, wild);
                due("whom(" + f + ", " + n + ", " + what + ")", real.whom(f, n, what), model.whom(f, n, what));
                break;
            }
            case 16:
            case 17: {
                int s = any(0, 3, wild);
                int what = any(0, 7, wild);
                due("tells(" + s + ", " + h + ", " + what + ")", real.tells(s, h, what), model.tells(s, h, what));
                break;
            }
            case 18: {
                int s = any(0, 3, wild);
                due("film(" + s + ", " + h + ", " + n + ")", real.film(s, h, n), model.film(s, h, n));
                if (!wild && random.nextBoolean()) {
                    change(s, h);
                }
                for (int what = 0; what < 8; what++) {
                    due("tells(" + s + ", " + h + ", " + what + ")", real.tells(s, h, what), model.tells(s, h, what));
                }
                break;
            }
            case 19: {
                int seed = random.nextInt();
                due("drawn(" + seed + ")", real.drawn(seed), model.drawn(seed));
                break;
            }
            case 20: {
                int seed = wild ? any(0, 9, true) : random.nextInt();
                int m = any(1, 20, wild);
                int k = any(0, random.nextInt(4) == 0 ? 999 : 60, wild);
                int part = any(0, 1, wild);
                String call = "chance(" + seed + ", " + m + ", " + k + ", " + part + ")";
                due(call, real.chance(seed, m, k, part), model.chance(seed, m, k, part));
                break;
            }
            case 21:
                due("image()", real.image(), model.image());
                break;
            case 22:
                if (random.nextInt(3) == 0) {
                    due("back()", real.back(), model.back());
                }
                break;
            case 23: {
                int what = any(0, 5, wild);
                due("count(" + what + ")", real.count(what), model.count(what));
                break;
            }
            default:
                host(which, wild);
        }
    }

    /** Something small, so that what was told is almost so still. */
    private void change(int s, int h) {
        if (random.nextBoolean()) {
            int what = 1 + random.nextInt(4);
            int v = random.nextInt(10);
            due("set(" + what + ", " + h + ", " + v + ")", real.set(what, h, v), model.set(what, h, v));
        } else {
            int i = random.nextInt(20);
            int v = random.nextInt(51);
            due("cell(" + s + ", " + i + ", " + v + ")", real.cell(s, i, v), model.cell(s, i, v));
        }
    }

    private void host(int which, boolean wild) {
        int s = any(0, 3, wild);
        switch (which) {
            case 24: {
                int sort = any(-1, 2, wild);
                int n = any(0, random.nextInt(3) == 0 ? 40 : 6, wild);
                due("sheet(" + s + ", " + sort + ", " + n + ")", real.sheet(s, sort, n), model.sheet(s, sort, n));
                break;
            }
            case 25: {
                int i = any(0, 12, wild);
                int v = any(0, random.nextBoolean() ? 50 : 6, wild);
                due("cell(" + s + ", " + i + ", " + v + ")", real.cell(s, i, v), model.cell(s, i, v));
                break;
            }
            case 26: {
                int i = any(0, 5, wild);
                int other = any(0, 3, wild);
                int j = any(0, 5, wild);
                int n = any(0, 5, wild);
                String call = "copy(" + s + ", " + i + ", " + other + ", " + j + ", " + n + ")";
                due(call, real.copy(s, i, other, j, n), model.copy(s, i, other, j, n));
                break;
            }
            default: {
                int h = aHouse(wild);
                int k = any(0, 5, wild);
                due("taken(" + h + ", " + k + ")", real.taken(h, k), model.taken(h, k));
                int sort = any(0, 2, wild);
                int from = any(0, 6, wild);
                int n = any(0, 5, wild);
                String call = "houses(" + s + ", " + sort + ", " + from + ", " + n + ")";
                due(call, real.houses(s, sort, from, n), model.houses(s, sort, from, n));
            }
        }
    }
}
