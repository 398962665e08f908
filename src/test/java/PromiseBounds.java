/**
 * The sentences of promises 1 to 28, each at its bounds and one step beyond, full, empty and refused. Each test begins
 * with its sentence, word for word; what their words in capitals mean has its tests in TermsBounds.
 */
public final class PromiseBounds {
    private static final int MIN = Integer.MIN_VALUE, MAX = Integer.MAX_VALUE;
    private static final int BAD = -2, STATE = -3, FULL = -4, NONE = -1;
    private static final int[] WILD = {MIN, MIN + 1, -1, MAX - 1, MAX};

    public static void main(String[] args) {
        promise01();
        promise02();
        promise03();
        promise04();
        promise05();
        promise06();
        promise07();
        promise08();
        promise09();
        promise10();
        promise11();
        promise12();
        promise13();
        promise14();
        promise15();
        promise16();
        promise17();
        promise18();
        promise19();
        promise20();
        promise21();
        promise22();
        promise23();
        promise24();
        promise25();
        promise26();
        promise27();
        promise28();
        Sentences.end();
    }

    private static void says(String words) {
        Sentences.says(words);
    }

    private static void due(String call, long got, long want) {
        Sentences.due(call, got, want);
    }

    // ---- laws, houses

    private static void promise01() {
        Sentences.under("Promise 1");
        says("No LAWS, no HOUSES.");
        ApplesFall x = new ApplesFall();
        due("LAWS", x.count(1), 0);
        due("no LAW 0", x.laws(10), BAD);
        due("no LAW 0", x.laws(20), BAD);
        due("HOUSES", x.count(0), 0);
        due("no HOUSE 0", x.told(0, 1), BAD);
        due("APPLES", x.count(2), 0);
        due("a second object has its own", new ApplesFall().learns(0, 0) + x.count(1), 0);
    }

    private static void promise02() {
        Sentences.under("Promise 2");
        says("A LAW more: its number.");
        ApplesFall x = new ApplesFall();
        for (int i = 0; i < 10; i++) {
            due("LAW " + i, x.learns(4095 - i, i + 2), i);
            due("its FACTS", x.laws(10 + i), 4095 - i);
            due("its FACT", x.laws(20 + i), i + 2);
        }
        says("BAD: from (0 .. 4095), fact;");
        Sentences.range("learns(from, 0)", 0, 4095, BAD, v -> new ApplesFall().learns(v, 0));
        Sentences.range("learns(0, fact)", 0, 11, BAD, v -> new ApplesFall().learns(0, v));
        due("both", new ApplesFall().learns(-1, 12), BAD);
        says("FULL.");
        due("an eleventh", x.learns(0, 0), FULL);
        due("BAD is ahead of it: from", x.learns(4096, 0), BAD);
        due("BAD is ahead of it: fact", x.learns(0, -1), BAD);
    }

    private static void promise03() {
        Sentences.under("Promise 3");
        says("DAY (what 0; of does not matter), NUMBER (1), what it KNOWS (2; 0 .. 4095), APPLES (3), RIPE (4) of a "
            + "HOUSE becomes v: what it was.");
        int[] least = {0, 3, 0, 50, 0};
        int[] most = {999, 9, 4095, 99, 99};
        for (int what = 0; what < 5; what++) {
            ApplesFall x = Given.house(2, 3);
            due("what " + what + ", to the most", x.set(what, 0, most[what]), least[what]);
            due("what " + what + " is so", x.told(0, what), most[what]);
            due("what " + what + ", to 0", x.set(what, 0, 0), most[what]);
            due("what " + what + " is so", x.told(0, what), 0);
            due("what " + what + ", to 0 again", x.set(what, 0, 0), 0);
        }
        for (int of : new int[] {MIN, -1, 0, 1, 5, MAX}) {
            due("DAY of " + of, new ApplesFall().set(0, of, 999), 0);
        }
        says("BAD.");
        for (int what = 0; what < 5; what++) {
            int w = what;
            Sentences.range("set(" + w + ", 0, v)", 0, most[what], BAD, v -> Given.house(0, 3).set(w, 0, v));
        }
        for (int v : new int[] {0, 7}) {
            Sentences.range("set(what, 0, " + v + ")", 0, 4, BAD, what -> Given.house(0, 0).set(what, 0, v));
        }
        for (int what = 1; what < 5; what++) {
            for (int of : new int[] {MIN, -1, 1, 4, 5, MAX}) {
                due("set(" + what + ", " + of + ", 7)", Given.house(0, 0).set(what, of, 7), BAD);
            }
        }
    }

    private static void promise04() {
        Sentences.under("Promise 4");
        says("A HOUSE: its number.");
        ApplesFall x = new ApplesFall();
        for (int i = 0; i < 5; i++) {
            due("HOUSE " + i, x.house(5 - i, 9 - 2 * i), i);
            due("its KIND", x.told(i, 5), 5 - i);
            due("its NUMBER", x.told(i, 1), 9 - 2 * i);
        }
        says("BAD;");
        Sentences.range("house(kind, 9)", 0, 5, BAD, v -> new ApplesFall().house(v, 9));
        Sentences.range("house(5, number)", 0, 9, BAD, v -> new ApplesFall().house(5, v));
        says("FULL.");
        due("a sixth", x.house(0, 0), FULL);
        due("BAD is ahead of it: kind", x.house(6, 0), BAD);
        due("BAD is ahead of it: number", x.house(0, -1), BAD);
    }

    private static void promise05() {
        Sentences.under("Promise 5");
        says("What 0 .. 4 as of set(),");
        ApplesFall x = Given.house(0, 9);
        x.set(0, 0, 999);
        x.set(2, 0, 4095);
        x.set(3, 0, 99);
        x.set(4, 0, 98);
        int[] is = {999, 9, 4095, 99, 98};
        for (int what = 0; what < 5; what++) {
            due("told(0, " + what + ")", x.told(0, what), is[what]);
        }
        for (int of : new int[] {MIN, -1, 1, 5, MAX}) {
            due("DAY: of doesn't matter, " + of, x.told(of, 0), 999);
        }
        says("5 KIND,");
        for (int kind = 0; kind < 6; kind++) {
            due("KIND " + kind, Given.house(kind, 0).told(0, 5), kind);
        }
        says("6 what FOLLOWS (bits),");
        x = Given.house(5, 0);
        due("no LAWS", x.told(0, 6), 0);
        x.learns(0, 0);
        x.learns(1, 11);
        due("FACT 0", x.told(0, 6), 1);
        x.set(2, 0, 1);
        due("FACT 11", x.told(0, 6), 2048);
        x.set(2, 0, 4095);
        due("KNOWS all", x.told(0, 6), 0);
        says("7 what it UNDERSTANDS (bits),");
        due("KNOWS all", x.told(0, 7), 0);
        x.set(2, 0, 1);
        due("a GIRL, one", x.told(0, 7), 0);
        x.learns(0, 10);
        due("a GIRL, two", x.told(0, 7), 1024 + 2048);
        says("8 what FALLS for that, together,");
        due("not RIPE", x.told(0, 8), 0);
        x.set(4, 0, 51);
        due("told by TEXT 0: 51 isn't below 19", x.told(0, 8), 0);
        Given.rule(x, "49+(fact=11)", "0", "1");
        due("98 and 99", x.told(0, 8), 197);
        x.set(2, 0, 2049);
        due("nothing UNDERSTOOD", x.told(0, 8), 0);
        says("9 ALL that follows (bits),");
        due("with what it KNOWS", x.told(0, 9), 1 + 1024 + 2048);
        due("no LAWS, nothing KNOWN", Given.house(0, 0).told(0, 9), 0);
        says("10 NEVER (bits),");
        due("a GIRL never UNDERSTANDS one", x.told(0, 10), 4095 - 2049);
        due("no LAWS, nothing KNOWN", Given.house(0, 0).told(0, 10), 4095);
        says("11 MISS (NONE).");
        due("LAW 2 tells what else isn't KNOWN", x.told(0, 11), 2);
        due("no LAWS", Given.house(0, 0).told(0, 11), NONE);
        says("BAD.");
        Sentences.range("told(0, what)", 0, 11, BAD, what -> Given.house(0, 0).told(0, what));
        for (int what = 1; what < 12; what++) {
            for (int of : new int[] {MIN, -1, 1, 5, MAX}) {
                due("told(" + of + ", " + what + ")", Given.house(0, 0).told(of, what), BAD);
            }
        }
    }

    // ---- texts

    private static void promise06() {
        Sentences.under("Promise 6");
        says("A byte (0 .. 255) comes behind THE TAPE: how many it has.");
        Sentences.range("feed(letter)", 0, 255, BAD, b -> new ApplesFall().feed(b));
        ApplesFall x = new ApplesFall();
        for (int i = 1; i < 160; i++) {
            due("byte " + i, x.feed(255), i);
        }
        due("byte 160", x.feed(0), 160);
        says("BAD;");
        due("BAD is ahead of FULL, 256", x.feed(256), BAD);
        due("BAD is ahead of FULL, -1", x.feed(-1), BAD);
        says("FULL.");
        due("byte 161, 0", x.feed(0), FULL);
        due("byte 161, 255", x.feed(255), FULL);
        due("how many it has", x.count(4), 160);
        x.text();
        due("room again", x.feed(0), 1);
    }

    private static void promise07() {
        Sentences.under("Promise 7");
        says("THE TAPE, which is empty then (by a FAULT, too), is a TEXT: its number;");
        ApplesFall x = new ApplesFall();
        due("TEXT 1", Given.read(x, Given.PLAIN), 1);
        due("empty then", x.count(4), 0);
        due("a FAULT", Given.read(x, "falls ; "), -106);
        due("empty then, too", x.count(4), 0);
        due("a TEXT all the same", Given.read(x, Given.PLAIN), 2);
        formerBytes('z');
        formerBytes('9');
        formerBytes(';');
        formerFault("falls 7;ripens 7;takes not not 1?");
        formerFault("falls 7+7*7;ripens -7;takes 7;;");
        formerFault("falls not not -1 and -1 and");
        says("-100 less the place of its FAULT.");
        due("place 0, empty", Given.reads(""), -100);
        due("place 0", Given.reads("?"), -100);
        due("place 1", Given.reads(" ?"), -101);
        due("place 159", Given.reads(" ".repeat(159) + "?"), -259);
        due("place 160, the size", Given.reads(" ".repeat(160)), -260);
        due("place 160, what isn't fed doesn't stand", Given.reads(" ".repeat(160) + "?"), -260);
        says("FULL (ahead of all): no TEXT more has room (THE TAPE stays).");
        for (int i = 3; i < 6; i++) {
            due("TEXT " + i, Given.read(x, Given.PLAIN), i);
        }
        due("empty, no FAULT", x.text(), FULL);
        due("one that is well", Given.read(x, Given.PLAIN), FULL);
        due("THE TAPE", x.count(4), Given.PLAIN.length());
        due("a FAULT", Given.read(x, "?"), FULL);
        due("THE TAPE", x.count(4), Given.PLAIN.length() + 1);
        due("it goes on", x.feed(32), Given.PLAIN.length() + 2);
    }

    /** What once stood on THE TAPE is no part of what comes, though it may go on where that ends. */
    private static void formerBytes(char former) {
        String text = "falls 1;ripens 12;takes ripe";
        for (int size : new int[] {0, 5, 6, 7, 8, 14, 17, 18, 23, 28}) {
            ApplesFall x = new ApplesFall();
            Given.read(x, String.valueOf(former).repeat(160));
            due("ends too early at " + size + ", behind " + former, Given.read(x, text.substring(0, size)), -100 - size);
        }
    }

    /** What a FAULT left is no part of the TEXT that comes. */
    private static void formerFault(String text) {
        ApplesFall x = Given.house(0, 0);
        due("a FAULT", Given.read(x, text) <= -100 ? 1 : 0, 1);
        due("a TEXT behind " + text, Given.read(x, "falls 5;ripens 3;takes 1;"), 1);
        x.force(1);
        due("falls", x.asks(0, 0, 4), 5);
        due("ripens", x.run(0, 1, 2), 3);
        due("takes", x.asks(0, 0, 3), 1);
    }

    private static void promise08() {
        Sentences.under("Promise 8");
        says("A TEXT is THE RULE: which was.");
        ApplesFall x = Given.house(0, 0);
        for (int i = 1; i < 6; i++) {
            Given.read(x, "falls " + i * 11 + ";ripens " + i + ";takes " + i % 2 + ";");
        }
        due("still TEXT 0", x.asks(0, 0, 4), 1);
        for (int i = 1; i < 6; i++) {
            due("force(" + i + ")", x.force(i), i - 1);
            due("falls", x.asks(0, 0, 4), i * 11);
            due("ripens", x.run(0, 1, 2), i);
            due("takes", x.asks(0, 0, 3), i % 2);
        }
        due("force(5) again", x.force(5), 5);
        due("force(0)", x.force(0), 5);
        due("TEXT 0", x.asks(0, 0, 4), 1);
        says("BAD.");
        Sentences.range("force(text) of one", 0, 0, BAD, t -> new ApplesFall().force(t));
        Sentences.range("force(text) of six", 0, 5, BAD, t -> Given.full().force(t));
        ApplesFall y = new ApplesFall();
        Given.read(y, "falls ?");
        due("a FAULT is no TEXT", y.force(1), BAD);
    }

    // ---- what follows

    private static void promise09() {
        Sentences.under("Promise 9");
        says("Of a set of FACTS: what FOLLOWS (what 0; bits), ALL that follows (1; bits), behind how many rounds that is "
            + "so (2).");
        ApplesFall x = new ApplesFall();
        int[][] none = {{0, 0, 0}, {1, 0, 1}, {2048, 0, 2048}, {4095, 0, 4095}};
        for (int[] n : none) {
            due("no LAWS, FOLLOWS " + n[0], x.follows(n[0], 0), n[1]);
            due("no LAWS, ALL " + n[0], x.follows(n[0], 1), n[2]);
            due("no LAWS, rounds " + n[0], x.follows(n[0], 2), 0);
        }
        Given.chain(x, 10);
        for (int f = 0; f < 12; f++) {
            boolean leads = f < 10;
            due("FOLLOWS from " + f, x.follows(1 << f, 0), leads ? 2 << f : 0);
            due("ALL of " + f, x.follows(1 << f, 1), leads ? 2048 - (1 << f) : 1 << f);
            due("rounds of " + f, x.follows(1 << f, 2), leads ? 10 - f : 0);
        }
        due("FOLLOWS from all", x.follows(4095, 0), 0);
        due("ALL of all", x.follows(4095, 1), 4095);
        due("rounds of all", x.follows(4095, 2), 0);
        says("BAD: set, what.");
        Sentences.range("follows(set, 0)", 0, 4095, BAD, v -> new ApplesFall().follows(v, 0));
        Sentences.range("follows(0, what)", 0, 2, BAD, v -> new ApplesFall().follows(0, v));
    }

    private static void promise10() {
        Sentences.under("Promise 10");
        says("IDLE (what 0; bits), ROOTS (1; bits), SAME (2), FACTS of a LAW, who is what less 10 (10 ..; bits), its FACT "
            + "(20 ..).");
        ApplesFall x = new ApplesFall();
        int[] none = {0, 4095, 0};
        for (int what = 0; what < 3; what++) {
            due("no LAWS, laws(" + what + ")", x.laws(what), none[what]);
        }
        for (int many = 0; many < 10; many++) {
            lawsOf(x, many);
            x.learns(1 << many + 2, many);
        }
        lawsOf(x, 10);
        due("IDLE", x.laws(0), 0);
        due("ROOTS", x.laws(1), 1024 + 2048);
        due("SAME", x.laws(2), 0);
        says("BAD.");
        for (int what : new int[] {MIN, -1, 3, 9, 30, 31, MAX}) {
            due("laws(" + what + ")", x.laws(what), BAD);
        }
    }

    /** LAW i of so many is FACT i + 2 to i; the one behind the last is none, nor is what isn't 10 .. 19, 20 .. 29. */
    private static void lawsOf(ApplesFall x, int many) {
        for (int i = -1; i <= 10; i++) {
            boolean is = i >= 0 && i < many;
            if (i < 10) {
                due("FACTS of " + i + " of " + many, x.laws(10 + i), is ? 1 << i + 2 : BAD);
            }
            if (i >= 0) {
                due("FACT of " + i + " of " + many, x.laws(20 + i), is ? i : BAD);
            }
        }
    }

    // ---- telling, days

    private static void promise11() {
        Sentences.under("Promise 11");
        says("TOLD a FACT, truly: whether it KNOWS it since (1, 0).");
        for (int f = 0; f < 12; f++) {
            ApplesFall x = Given.house(0, 0);
            due("FACT " + f, x.tell(0, f), 1);
            due("KNOWS it", x.told(0, 2), 1 << f);
            Given.rule(x, "0", "0", "0");
            due("not TAKEN", x.tell(0, 11 - f), 0);
            due("KNOWS no more", x.told(0, 2), 1 << f);
        }
        says("BAD: no such HOUSE, FACT;");
        Sentences.range("tell(house, 0) of 5", 0, 4, BAD, h -> Given.houses(5).tell(h, 0));
        Sentences.range("tell(house, 0) of 1", 0, 0, BAD, h -> Given.houses(1).tell(h, 0));
        Sentences.range("tell(0, fact)", 0, 11, BAD, f -> Given.houses(1).tell(0, f));
        due("no HOUSES", new ApplesFall().tell(0, 0), BAD);
        says("STATE: it KNOWS it.");
        for (int f = 0; f < 12; f++) {
            ApplesFall x = Given.house(4, f % 10);
            x.set(2, 0, 1 << f);
            due("KNOWS FACT " + f, x.tell(0, f), STATE);
            x.set(2, 0, 4095 - (1 << f));
            due("KNOWS all but FACT " + f, x.tell(0, f), f < 10 ? 0 : 1);
        }
    }

    private static void promise12() {
        Sentences.under("Promise 12");
        says("A DAY, truly: by how many APPLES are less, of all HOUSES together.");
        ApplesFall x = Given.houses(5);
        x.learns(0, 0);
        Given.rule(x, "99", "0", "1");
        for (int h = 0; h < 5; h++) {
            x.set(3, h, h < 4 ? 99 : 0);
        }
        due("all of them", x.day(), 4 * 99);
        due("none are left", x.day(), 0);
        due("APPLES", x.count(2), 0);
        due("no HOUSES", new ApplesFall().day(), 0);
        says("STATE: DAY is 999.");
        x.set(0, 0, 998);
        due("998", x.day(), 0);
        due("999", x.day(), STATE);
        due("999 still", x.day(), STATE);
        due("DAY", x.told(0, 0), 999);
        x.set(0, 0, 0);
        due("0", x.day(), 0);
        ApplesFall y = new ApplesFall();
        y.set(0, 0, 999);
        due("no HOUSES, 999", y.day(), STATE);
    }

    private static void promise13() {
        Sentences.under("Promise 13");
        says("n DAYS: what a HOUSE KNOWS (what 0; bits), its APPLES (1), RIPE (2), BASKETS of all (3).");
        ApplesFall x = Given.house(0, 0);
        Given.chain(x, 10);
        x.house(2, 0);
        x.set(2, 0, 1);
        x.set(2, 1, 1 << 10);
        for (int n : new int[] {0, 1, 9, 10, 11, 39, 40}) {
            int fell = Math.min(10, n);
            due("KNOWS behind " + n, x.run(0, n, 0), (2 << fell) - 1);
            due("APPLES behind " + n, x.run(0, n, 1), 50 - fell);
            due("RIPE behind " + n, x.run(0, n, 2), n);
            due("BASKETS behind " + n, x.run(0, n, 3), fell);
            due("BASKETS of all, asked of the other", x.run(1, n, 3), fell);
            due("APPLES of the other", x.run(1, n, 1), 50);
        }
        due("truly nothing", x.told(0, 2), 1);
        says("BAD.");
        Sentences.range("run(0, n, 3)", 0, 40, BAD, n -> Given.houses(1).run(0, n, 3));
        for (int what = 0; what < 4; what++) {
            int w = what;
            Sentences.range("run(house, 1, " + w + ")", 0, 4, BAD, h -> Given.houses(5).run(h, 1, w));
            due("no HOUSES, what " + w, new ApplesFall().run(0, 1, w), BAD);
        }
        Sentences.range("run(0, 1, what)", 0, 3, BAD, what -> Given.houses(1).run(0, 1, what));
    }

    private static void promise14() {
        Sentences.under("Promise 14");
        says("KNOWS WHEN (what 0; NONE),");
        ApplesFall x = Given.house(1, 0);
        Given.chain(x, 10);
        x.set(2, 0, 1);
        for (int f = 0; f < 12; f++) {
            due("FACT " + f, x.asks(0, f, 0), f < 11 ? f : NONE);
        }
        says("FEWEST (1; bits), how many (2),");
        for (int f = 0; f < 12; f++) {
            due("FEWEST for " + f, x.asks(0, f, 1), f < 11 ? 0 : 2048);
            due("how many for " + f, x.asks(0, f, 2), f < 11 ? 0 : 1);
        }
        x.set(2, 0, 2);
        due("FEWEST for what is behind", x.asks(0, 0, 1), 1);
        x.set(2, 0, 0);
        due("FEWEST, the least of all that lead there", x.asks(0, 10, 1), 1);
        due("how many", x.asks(0, 10, 2), 1);
        says("whether it would TAKE it (3; 1, 0; KNOWN or not),");
        x = Given.house(0, 0);
        x.set(2, 0, 1 << 11);
        Given.rule(x, "fact+1", "0", "fact=0 or fact=11");
        for (int f = 0; f < 12; f++) {
            due("TAKES " + f, x.asks(0, f, 3), f == 0 || f == 11 ? 1 : 0);
        }
        x = Given.house(4, 9);
        x.set(2, 0, 1 << 9);
        due("a MASTER, NUMBER, KNOWN", x.asks(0, 9, 3), 0);
        due("a MASTER, one more", x.asks(0, 10, 3), 1);
        says("FALL for it (4).");
        for (int known : new int[] {0, 4095}) {
            x = Given.house(0, 0);
            x.set(2, 0, known);
            x.set(3, 0, 0);
            Given.rule(x, "fact*9", "0", "1");
            for (int f = 0; f < 12; f++) {
                due("FALL for " + f + ", KNOWN " + known, x.asks(0, f, 4), f * 9);
            }
        }
        says("BAD.");
        for (int what = 0; what < 5; what++) {
            int w = what;
            Sentences.range("asks(house, 0, " + w + ")", 0, 4, BAD, h -> Given.houses(5).asks(h, 0, w));
            Sentences.range("asks(0, fact, " + w + ")", 0, 11, BAD, f -> Given.houses(1).asks(0, f, w));
            due("no HOUSES, what " + w, new ApplesFall().asks(0, 0, w), BAD);
        }
        Sentences.range("asks(0, 0, what)", 0, 4, BAD, what -> Given.houses(1).asks(0, 0, what));
    }

    // ---- what would be best

    private static void promise15() {
        Sentences.under("Promise 15");
        says("TELL (what 0; NONE),");
        ApplesFall x = Given.house(0, 0);
        Given.chain(x, 10);
        due("the longest way", x.best(0, 40, 0), 0);
        due("behind one DAY all ten are alike", x.best(0, 1, 0), 0);
        x.set(2, 0, 1 << 8);
        due("behind two DAYS", x.best(0, 2, 0), 0);
        due("behind no DAY", x.best(0, 0, 0), NONE);
        x.set(2, 0, 2047);
        due("nothing FOLLOWS", x.best(0, 40, 0), NONE);
        ApplesFall last = Given.house(0, 0);
        last.learns(2048, 0);
        due("FACT 11", last.best(0, 1, 0), 11);
        says("BASKET then (1; as so, if none).");
        due("as so, 0", x.best(0, 40, 1), 0);
        x.set(2, 0, 0);
        due("ten DAYS", x.best(0, 40, 1), 10);
        due("nine DAYS", x.best(0, 9, 1), 9);
        due("one DAY", x.best(0, 1, 1), 1);
        due("no DAY", x.best(0, 0, 1), 0);
        x.set(2, 0, 1);
        // FACT 1 told, 2 and on fall; without a word 1, 2 and on: one more.
        due("as so, 10", x.best(0, 40, 1), 10);
        due("none", x.best(0, 40, 0), NONE);
        says("BAD.");
        for (int what = 0; what < 2; what++) {
            int w = what;
            Sentences.range("best(house, 1, " + w + ")", 0, 4, BAD, h -> Given.houses(5).best(h, 1, w));
            Sentences.range("best(0, n, " + w + ")", 0, 40, BAD, n -> Given.houses(1).best(0, n, w));
            due("no HOUSES, what " + w, new ApplesFall().best(0, 1, w), BAD);
        }
        Sentences.range("best(0, 1, what)", 0, 1, BAD, what -> Given.houses(1).best(0, 1, what));
    }

    private static void promise16() {
        Sentences.under("Promise 16");
        says("WHOM (what 0; NONE),");
        ApplesFall x = Given.houses(4);
        x.house(2, 0);
        x.learns(1, 1);
        due("the HEBBS: 2 fall", x.whom(0, 1, 0), 4);
        x.set(2, 4, 1);
        due("of like ones the first", x.whom(0, 1, 0), 0);
        due("behind no DAY", x.whom(0, 0, 0), NONE);
        due("FACT 11: nothing FOLLOWS", x.whom(11, 40, 0), NONE);
        says("BASKETS of all then (1; as so, if none).");
        due("one, and two of the HEBBS", x.whom(0, 1, 1), 3);
        due("as so: two of the HEBBS", x.whom(11, 40, 1), 2);
        due("as so: no DAY", x.whom(0, 0, 1), 0);
        due("no HOUSES", new ApplesFall().whom(0, 40, 1), 0);
        says("BAD.");
        for (int what = 0; what < 2; what++) {
            int w = what;
            Sentences.range("whom(fact, 1, " + w + ")", 0, 11, BAD, f -> Given.houses(1).whom(f, 1, w));
            Sentences.range("whom(0, n, " + w + ")", 0, 40, BAD, n -> Given.houses(1).whom(0, n, w));
        }
        Sentences.range("whom(0, 1, what)", 0, 1, BAD, what -> Given.houses(1).whom(0, 1, what));
        due("BAD with no HOUSES", new ApplesFall().whom(12, 1, 0), BAD);
    }

    // ---- trees that were told

    private static void promise17() {
        Sentences.under("Promise 17");
        says("TOLD of a HOUSE: the first that is otherwise (what 0; NONE),");
        ApplesFall x = Given.house(0, 0);
        Given.chain(x, 2);
        x.set(2, 0, 1);
        Given.row(x, 0, 0, 49, 48, 48);
        due("none", x.tells(0, 0, 0), NONE);
        x.cell(0, 2, 47);
        due("the last", x.tells(0, 0, 0), 2);
        x.cell(0, 0, 50);
        due("the first", x.tells(0, 0, 0), 0);
        says("KINDS (1),");
        Given.row(x, 0, 0, 49, 48, 48);
        due("HOUSE", x.tells(0, 0, 1), 1);
        x.sheet(1, 2, 0);
        due("all, of no DAYS", x.tells(1, 0, 1), 63);
        says("NUMBERS (2),");
        due("all", x.tells(0, 0, 2), 1023);
        due("all, of no DAYS", x.tells(1, 0, 2), 1023);
        says("RIPE: how many (3), the least (4; NONE),");
        due("below 18 now: of two DAYS", x.tells(0, 0, 3), 18);
        due("the least", x.tells(0, 0, 4), 0);
        due("all, of no DAYS", x.tells(1, 0, 3), 100);
        x.house(2, 0);
        due("all the same of another HOUSE", x.tells(1, 1, 3), 100);
        due("none of another HOUSE", x.tells(0, 1, 3), 0);
        due("the least of another HOUSE: none", x.tells(0, 1, 4), NONE);
        due("the least, as it was", x.tells(0, 0, 4), 0);
        x.sheet(2, 0, 1);
        due("none", x.tells(2, 0, 3), 0);
        due("the least of none", x.tells(2, 0, 4), NONE);
        says("FACTS (5),");
        due("all but 0, 1, 2", x.tells(0, 0, 5), 4095 - 7);
        due("all, of no DAYS", x.tells(1, 0, 5), 4095);
        says("TEXTS (6),");
        due("TEXT 0", x.tells(0, 0, 6), 1);
        due("none", x.tells(2, 0, 6), 0);
        says("HOUSES (7).");
        due("HOUSE 0", x.tells(0, 0, 7), 1);
        x = Given.houses(5);
        Given.chain(x, 2);
        Given.row(x, 0, 0, 49, 48, 48);
        for (int i = 0; i < 5; i++) {
            x.set(2, i, 1);
        }
        due("all five, asked of the last", x.tells(0, 4, 7), 31);
        x.set(2, 2, 3);
        due("all but 2", x.tells(0, 2, 7), 31 - 4);

        says("BAD: SHEET, no such HOUSE, what;");
        for (int what = 0; what < 8; what++) {
            int w = what;
            Sentences.range("tells(sheet, 0, " + w + ")", 0, 3, BAD, s -> Given.houses(1).tells(s, 0, w));
            Sentences.range("tells(0, house, " + w + ")", 0, 4, BAD, h -> Given.houses(5).tells(0, h, w));
            due("no HOUSES, what " + w, Given.sheet(0, 0).tells(0, 0, w), BAD);
        }
        Sentences.range("tells(0, 0, what)", 0, 7, BAD, what -> Given.houses(1).tells(0, 0, what));
        says("-11;");
        for (int what = 0; what < 8; what++) {
            due("missing, what " + what, Given.houses(1).tells(3, 0, what), -11);
        }
        due("missing again", missingAgain().tells(0, 0, 0), -11);
        says("BAD: it tells more than 20.");
        for (int n : new int[] {0, 1, 19, 20, 21, 39, 40}) {
            for (int what = 0; what < 8; what++) {
                ApplesFall y = Given.sheet(what % 3, n);
                y.house(0, 0);
                due("of " + n + ", what " + what, y.tells(0, 0, what) == BAD ? 1 : 0, n > 20 ? 1 : 0);
            }
        }
    }

    private static ApplesFall missingAgain() {
        ApplesFall x = Given.houses(1);
        x.sheet(0, 2, 3);
        x.sheet(0, -1, 0);
        return x;
    }

    private static void promise18() {
        Sentences.under("Promise 18");
        says("A SHEET truly becomes APPLES of a HOUSE behind 1, .., n DAYS (0 .. 20; bytes): n.");
        for (int n : new int[] {0, 1, 19, 20}) {
            ApplesFall x = Given.house(0, 0);
            Given.chain(x, 10);
            x.set(2, 0, 1);
            x.sheet(1, 2, 40);
            due("film of " + n, x.film(1, 0, n), n);
            due("all is so", x.tells(1, 0, 0), NONE);
            due("as many as " + n, x.cell(1, n, 0), -12);
            due("the last of " + n, x.cell(1, n - 1, 0), n > 0 ? 1 : -12);
            due("bytes", x.houses(1, 0, 0, 0), 0);
            due("not ints any more", x.houses(1, 2, 0, 0), -13);
            due("truly nothing else", x.told(0, 3), 50);
        }
        ApplesFall x = Given.house(0, 0);
        Given.chain(x, 3);
        x.set(2, 0, 1);
        x.film(0, 0, 4);
        int[] apples = {49, 48, 47, 47};
        for (int i = 0; i < 4; i++) {
            Given.row(x, 1, 0, apples);
            x.cell(1, i, 0);
            x.copy(0, i, 1, i, 1);
            due("item " + i, x.tells(1, 0, 0), NONE);
        }
        says("BAD.");
        Sentences.range("film(sheet, 0, 1)", 0, 3, BAD, s -> Given.houses(1).film(s, 0, 1));
        Sentences.range("film(0, house, 1)", 0, 4, BAD, h -> Given.houses(5).film(0, h, 1));
        Sentences.range("film(0, 0, n)", 0, 20, BAD, n -> Given.houses(1).film(0, 0, n));
        due("no HOUSES", new ApplesFall().film(0, 0, 1), BAD);
    }

    private static void promise19() {
        Sentences.under("Promise 19");
        says("DRAWN.");
        // Each taken FACT lets fall as many as 1 more than it is: z tells which, by hand for the first DAY.
        for (int seed : new int[] {MIN, -1, 0, 1, MAX}) {
            int z = seed * 1103515245 + 12345;
            int fact = (z >>> 17) % 12;
            ApplesFall x = Given.house(0, 0);
            x.learns(1 << fact, (fact + 1) % 12);
            Given.rule(x, "7", "0", "day=0");
            due("drawn(" + seed + ")", x.drawn(seed), 7);
            x.set(0, 0, 1);
            due("drawn(" + seed + "), TAKES none", x.drawn(seed), 0);
            due("drawn(" + seed + "), no HOUSES", new ApplesFall().drawn(seed), 0);
        }
    }

    private static void promise20() {
        Sentences.under("Promise 20");
        says("IN m seeds: part 0 above, 1 below the line, in lowest terms.");
        ApplesFall x = Given.house(0, 0);
        x.learns(1, 11);
        x.learns(2, 11);
        x.learns(4, 11);
        Given.rule(x, "9", "0", "day=0");
        for (int seed : new int[] {0, -10, MAX - 5, MIN}) {
            for (int m = 1; m <= 20; m++) {
                linesOf(x, seed, m);
            }
        }
        due("none of 20, above", x.chance(0, 20, 999, 0), 0);
        due("none of 20, below", x.chance(0, 20, 999, 1), 1);
        due("all of 20, above", x.chance(0, 20, 0, 0), 1);
        due("all of 20, below", x.chance(0, 20, 0, 1), 1);
        says("NO: m, k, part.");
        Sentences.range("chance(0, m, 0, 0)", 1, 20, ApplesFall.NO, m -> Given.houses(1).chance(0, m, 0, 0));
        Sentences.range("chance(0, 1, k, 1)", 0, 999, ApplesFall.NO, k -> Given.houses(1).chance(0, 1, k, 1));
        Sentences.range("chance(0, 1, 0, part)", 0, 1, ApplesFall.NO, p -> Given.houses(1).chance(0, 1, 0, p));
        Sentences.range("chance(0, m, 0, 0), no HOUSES", 1, 20, ApplesFall.NO, m -> new ApplesFall().chance(0, m, 0, 0));
        for (int seed : WILD) {
            due("any seed, " + seed, Given.houses(1).chance(seed, 1, 0, 0), 1);
        }
    }

    /** Of FACT 0, 1, 2 in the first z of each seed nine fall. */
    private static void linesOf(ApplesFall x, int seed, int m) {
        int hits = 0;
        for (int i = 0; i < m; i++) {
            hits += ((seed + i) * 1103515245 + 12345 >>> 17) % 12 < 3 ? 1 : 0;
        }
        int most = m;
        while (hits % most != 0 || m % most != 0) {
            most--;
        }
        due(m + " seeds from " + seed + ", above", x.chance(seed, m, 9, 0), hits / most);
        due(m + " seeds from " + seed + ", below", x.chance(seed, m, 9, 1), m / most);
        due(m + " seeds from " + seed + ", one more", x.chance(seed, m, 10, 0), 0);
    }

    private static void promise21() {
        Sentences.under("Promise 21");
        says("AN IMAGE is kept: how many HOUSES.");
        for (int many = 0; many <= 5; many++) {
            ApplesFall x = Given.houses(many);
            due("of " + many, x.image(), many);
            due("of " + many + " again", x.image(), many);
            due("back to " + many, x.back(), many);
        }
        ApplesFall x = Given.houses(1);
        x.image();
        x.house(0, 0);
        x.set(0, 0, 5);
        due("a later one", x.image(), 2);
        x.set(0, 0, 6);
        due("back to the later one", x.back(), 2);
        due("its DAY", x.told(0, 0), 5);
    }

    private static void promise22() {
        Sentences.under("Promise 22");
        says("All that it keeps is as in THE IMAGE: how many HOUSES.");
        ApplesFall x = new ApplesFall();
        x.image();
        for (int i = 0; i < 5; i++) {
            x.house(5, 9);
            x.set(3, i, 99);
        }
        for (int i = 0; i < 10; i++) {
            x.learns(i < 2 ? 1 << i : 0, i);
        }
        due("IDLE, ahead of it", x.laws(0), 3);
        x.set(0, 0, 999);
        due("back to nothing", x.back(), 0);
        for (int what = 0; what < 3; what++) {
            due("count(" + what + ")", x.count(what), 0);
        }
        due("DAY", x.told(0, 0), 0);
        due("IDLE, no LAWS", x.laws(0), 0);
        due("ROOTS, no LAWS", x.laws(1), 4095);
        due("SAME, no LAWS", x.laws(2), 0);
        due("no LAW 0", x.laws(10), BAD);
        due("room for LAWS", x.learns(3, 3), 0);
        due("IDLE, one LAW", x.laws(0), 0);
        due("ROOTS, one LAW", x.laws(1), 4095 - 8);
        due("what FOLLOWS by the new one alone", x.follows(3, 1), 11);
        due("room for HOUSES", x.house(1, 1), 0);
        due("its KIND", x.told(0, 5), 1);
        due("its APPLES", x.told(0, 3), 50);
        due("back once more", x.back(), 0);
        due("LAWS", x.count(1), 0);
        ApplesFall full = Given.full();
        due("back to one of five", full.back(), 1);
        due("THE RULE", full.count(5), 0);
        due("RIPE 18", full.set(4, 0, 18), 0);
        due("falls by it", full.asks(0, 0, 4), 1);
        due("RIPE 19", full.set(4, 0, 19), 18);
        due("falls by it", full.asks(0, 0, 4), 0);
        due("DAY", full.told(0, 0), 7);
        due("TEXTS stay", full.count(3), 6);
        says("STATE: there is none.");
        due("a new object", new ApplesFall().back(), STATE);
        due("with HOUSES", Given.houses(5).back(), STATE);
    }

    private static void promise23() {
        Sentences.under("Promise 23");
        says("How many: 0 HOUSES, 1 LAWS, 2 APPLES of all, 3 TEXTS, 4 bytes of THE TAPE, 5 THE RULE.");
        ApplesFall x = new ApplesFall();
        int[] none = {0, 0, 0, 1, 0, 0};
        for (int what = 0; what < 6; what++) {
            due("new, count(" + what + ")", x.count(what), none[what]);
        }
        x = Given.full();
        int[] all = {5, 10, 50 + 61 + 62 + 63 + 64, 6, 160, 4};
        for (int what = 0; what < 6; what++) {
            due("full, count(" + what + ")", x.count(what), all[what]);
        }
        for (int apples : new int[] {0, 99}) {
            for (int h = 0; h < 5; h++) {
                x.set(3, h, apples);
            }
            due("APPLES of all", x.count(2), 5 * apples);
        }
        x.force(5);
        due("THE RULE", x.count(5), 5);
        says("BAD.");
        Sentences.range("count(what)", 0, 5, BAD, what -> new ApplesFall().count(what));
    }

    // ---- the host

    private static void promise24() {
        Sentences.under("Promise 24");
        says("A SHEET becomes a row of n of a sort, all 0, or missing (sort -1: n does not matter): 1.");
        for (int sort = 0; sort < 3; sort++) {
            for (int n : new int[] {0, 1, 39, 40}) {
                ApplesFall x = Given.sheet((sort + 1) % 3, 3);
                due("sheet(0, " + sort + ", " + n + ")", x.sheet(0, sort, n), 1);
                due("the last", x.cell(0, n - 1, 1), n > 0 ? 1 : -12);
                due("behind the last", x.cell(0, n, 1), -12);
                due("of that sort", x.houses(0, sort, 0, 0), 0);
                due("not of another", x.houses(0, (sort + 1) % 3, 0, 0), -13);
            }
        }
        ApplesFall x = Given.house(0, 0);
        x.set(3, 0, 0);
        Given.row(x, 0, 2, 7, 7, 7);
        x.sheet(0, 2, 3);
        due("all 0, of the same sort", x.tells(0, 0, 0), NONE);
        x.cell(0, 2, 7);
        x.sheet(0, -1, 0);
        x.sheet(0, 2, 3);
        due("all 0, had it been missing", x.tells(0, 0, 0), NONE);
        for (int n : new int[] {MIN, -1, 0, 40, 41, MAX}) {
            x.sheet(1, 0, 5);
            due("missing, n " + n, x.sheet(1, -1, n), 1);
            due("it is", x.cell(1, 0, 0), -11);
            due("missing again, n " + n, x.sheet(1, -1, n), 1);
        }
        says("BAD: no such SHEET, sort; n above 40;");
        for (int sort = -1; sort < 3; sort++) {
            int q = sort;
            Sentences.range("sheet(sheet, " + q + ", 1)", 0, 3, BAD, s -> new ApplesFall().sheet(s, q, 1));
        }
        for (int n : new int[] {0, 40}) {
            Sentences.range("sheet(0, sort, " + n + ")", -1, 2, BAD, q -> new ApplesFall().sheet(0, q, n));
        }
        for (int sort = 0; sort < 3; sort++) {
            due("n 40", new ApplesFall().sheet(3, sort, 40), 1);
            due("n 41", new ApplesFall().sheet(3, sort, 41), BAD);
            due("n MAX", new ApplesFall().sheet(3, sort, MAX), BAD);
        }
        says("-14.");
        for (int sort = 0; sort < 3; sort++) {
            due("n 0", new ApplesFall().sheet(3, sort, 0), 1);
            due("n -1", new ApplesFall().sheet(3, sort, -1), -14);
            due("n MIN", new ApplesFall().sheet(3, sort, MIN), -14);
        }
        due("BAD is ahead of it: SHEET", new ApplesFall().sheet(-1, 0, -1), BAD);
        due("BAD is ahead of it: sort", new ApplesFall().sheet(0, -2, -1), BAD);
    }

    private static void promise25() {
        Sentences.under("Promise 25");
        says("Item i of a SHEET becomes v (of bytes, shorts its lowest 8, 16 bits): 1.");
        // What stands there is told by a HOUSE without APPLES, or with 99: 0 or 99, and nothing else.
        int[] values = {0, 99, 255, 256, 256 + 99, -256, 65535, 65536, 65536 + 99, -65536 + 99, MIN, MIN + 99, MAX, -1};
        for (int sort = 0; sort < 3; sort++) {
            for (int v : values) {
                ApplesFall x = Given.house(0, 0);
                x.sheet(0, sort, 1);
                due("cell of sort " + sort, x.cell(0, 0, v), 1);
                int stands = sort == 0 ? v & 255 : sort == 1 ? v & 65535 : v;
                for (int apples : new int[] {0, 99}) {
                    x.set(3, 0, apples);
                    due(v + " in sort " + sort, x.tells(0, 0, 0), stands == apples ? NONE : 0);
                }
            }
        }
        says("BAD: no such SHEET;");
        Sentences.range("cell(sheet, 0, 0)", 0, 3, BAD, s -> new ApplesFall().cell(s, 0, 0));
        due("it is ahead of -12", Given.sheet(0, 3).cell(4, 3, 0), BAD);
        says("-11;");
        due("missing", new ApplesFall().cell(0, 0, 0), -11);
        due("it is ahead of -12", new ApplesFall().cell(0, -1, 0), -11);
        due("missing again", missingAgain().cell(0, 0, 0), -11);
        says("-12.");
        for (int n : new int[] {1, 2, 39, 40}) {
            Sentences.range("cell(0, i, 7) of " + n, 0, n - 1, -12, i -> Given.sheet(2, n).cell(0, i, 7));
        }
        for (int i : new int[] {MIN, -1, 0, 1, MAX}) {
            due("of none, " + i, Given.sheet(2, 0).cell(0, i, 7), -12);
        }
    }

    /** SHEET 0 is 50, 49, 48, 47 of a sort, SHEET 1 is all 0, four as well. */
    private static ApplesFall twoSheets(int sort) {
        ApplesFall x = Given.house(0, 0);
        Given.chain(x, 4);
        x.set(2, 0, 1);
        x.set(3, 0, 51);
        Given.row(x, 0, sort, 50, 49, 48, 47);
        x.sheet(1, sort, 4);
        return x;
    }

    private static void promise26() {
        Sentences.under("Promise 26");
        says("n numbers of a SHEET, from item i on, come to another one's item j on (as they were): n.");
        for (int sort = 0; sort < 3; sort++) {
            ApplesFall x = twoSheets(sort);
            due("none", x.copy(0, 0, 1, 0, 0), 0);
            due("none came", x.tells(1, 0, 0), 0);
            due("three", x.copy(0, 0, 1, 0, 3), 3);
            due("three came", x.tells(1, 0, 0), 3);
            due("the last", x.copy(0, 3, 1, 3, 1), 1);
            due("all came", x.tells(1, 0, 0), NONE);
            due("all at once, back", x.copy(1, 0, 0, 0, 4), 4);
            due("up over itself", x.copy(0, 0, 0, 1, 3), 3);
            due("as they were", x.copy(0, 1, 1, 0, 3), 3);
            due("50 49 48, 47 as it was", x.tells(1, 0, 0), NONE);
            due("down over itself", x.copy(1, 1, 1, 0, 3), 3);
            x.set(3, 0, 50);
            due("49 48 47, 47", x.tells(1, 0, 0), 3);
            x.cell(1, 3, 46);
            due("49 48 47 46", x.tells(1, 0, 0), NONE);
            due("onto itself", x.copy(1, 0, 1, 0, 4), 4);
            due("as it was", x.tells(1, 0, 0), NONE);
        }
        ApplesFall most = Given.sheet(2, 40);
        most.sheet(1, 2, 40);
        due("40", most.copy(0, 0, 1, 0, 40), 40);
        says("BAD: no such SHEET;");
        Sentences.range("copy(sheet, 0, 0, 0, 0)", 0, 3, BAD, s -> Given.sheet(0, 3).copy(s, 0, 0, 0, 0));
        Sentences.range("copy(0, 0, sheet, 0, 0)", 0, 3, BAD, s -> Given.sheet(0, 3).copy(0, 0, s, 0, 0));
        due("it is ahead of -11", new ApplesFall().copy(0, 0, 4, 0, -1), BAD);
        says("-11;");
        due("from a missing one", twoSheets(0).copy(2, 0, 0, 0, 0), -11);
        due("to a missing one", twoSheets(0).copy(0, 0, 2, 0, 0), -11);
        due("it is ahead of -12", twoSheets(0).copy(0, -1, 2, 9, -1), -11);
        due("both missing", twoSheets(0).copy(2, 0, 3, 0, 0), -11);
        says("-13: they are of unlike sorts;");
        for (int a = 0; a < 3; a++) {
            for (int b = 0; b < 3; b++) {
                ApplesFall x = Given.sheet(a, 3);
                x.sheet(1, b, 3);
                due("sorts " + a + ", " + b, x.copy(0, 0, 1, 0, 1), a == b ? 1 : -13);
                due("sorts " + a + ", " + b + ", outside", x.copy(0, 3, 1, 3, 1), a == b ? -12 : -13);
                due("sorts " + a + ", " + b + ", below 0", x.copy(0, 0, 1, 0, -1), a == b ? -12 : -13);
            }
        }
        says("-12 (also with n below 0).");
        for (int i : new int[] {MIN, -1, 0, 1, 2, 3, 4, 5, MAX}) {
            for (int n : new int[] {MIN, -1, 0, 1, 2, 3, 4, 5, MAX}) {
                boolean stands = i >= 0 && n >= 0 && (long) i + n <= 4;
                due("from " + i + ", " + n, twoSheets(0).copy(0, i, 1, 0, n), stands ? n : -12);
                due("to " + i + ", " + n, twoSheets(0).copy(0, 0, 1, i, n), stands ? n : -12);
            }
        }
        ApplesFall x = twoSheets(0);
        due("one too many", x.copy(1, 0, 0, 1, 4), -12);
        due("nothing came", x.tells(0, 0, 0), NONE);
    }

    private static void promise27() {
        Sentences.under("Promise 27");
        says("HOUSES by a SHEET that is taken for one of a sort: from one on, two by two (as of house()), n of them "
            + "(0 .. 5): how many came (others are left out).");
        for (int sort = 0; sort < 3; sort++) {
            ApplesFall x = new ApplesFall();
            Given.row(x, 0, sort, 7, 0, 9, 5, 0, -1, 0, 6, 0, 0, 10, 0, -1, 3, 3);
            due("none", x.houses(0, sort, 0, 0), 0);
            due("none came", x.count(0), 0);
            due("two of three", x.houses(0, sort, 1, 3), 2);
            due("KIND 0", x.told(0, 5), 0);
            due("NUMBER 9", x.told(0, 1), 9);
            due("KIND 5", x.told(1, 5), 5);
            due("NUMBER 0", x.told(1, 1), 0);
            due("none of three: KIND 6, NUMBERS 10, -1", x.houses(0, sort, 7, 3), 0);
            due("the last two", x.houses(0, sort, 13, 1), 1);
            due("HOUSES", x.count(0), 3);
        }
        ApplesFall five = Given.sheet(0, 40);
        due("five", five.houses(0, 0, 30, 5), 5);
        due("a sixth is left out", five.houses(0, 0, 0, 1), 0);
        due("HOUSES", five.count(0), 5);
        says("BAD: no such SHEET, sort, n;");
        Sentences.range("houses(sheet, 0, 0, 0)", 0, 3, BAD, s -> Given.sheet(0, 40).houses(s, 0, 0, 0));
        Sentences.range("houses(0, sort, 0, 0)", 0, 2, BAD, q -> Given.sheet(0, 40).houses(0, q, 0, 0));
        Sentences.range("houses(0, 0, 0, n)", 0, 5, BAD, n -> Given.sheet(0, 40).houses(0, 0, 0, n));
        Sentences.range("houses(3, 0, 0, n), missing", 0, 5, BAD, n -> Given.sheet(0, 40).houses(3, 0, 0, n));
        Sentences.range("houses(0, 1, 0, n), of another sort", 0, 5, BAD, n -> Given.sheet(0, 4).houses(0, 1, 0, n));
        says("-13;");
        for (int is = 0; is < 3; is++) {
            for (int sort = 0; sort < 3; sort++) {
                due("sort " + is + " for " + sort, Given.sheet(is, 2).houses(0, sort, 0, 1), is == sort ? 1 : -13);
                due("none, sort " + is + " for " + sort, Given.sheet(is, 2).houses(0, sort, 0, 0), is == sort ? 0 : -13);
                due("outside, sort " + is + " for " + sort, Given.sheet(is, 2).houses(0, sort, 2, 1),
                    is == sort ? -12 : -13);
            }
        }
        says("-11;");
        for (int sort = 0; sort < 3; sort++) {
            due("missing", new ApplesFall().houses(0, sort, 0, 1), -11);
            due("missing, none", new ApplesFall().houses(0, sort, 0, 0), -11);
            due("missing, outside", new ApplesFall().houses(0, sort, -1, 5), -11);
            due("missing again", missingAgain().houses(0, sort, 0, 1), -11);
        }
        says("-12: what stood ahead came.");
        for (int n = 1; n <= 5; n++) {
            for (int from : new int[] {MIN, -2, -1, 0, 1, 2, 3, 4, 5, 6, 7, MAX - 1, MAX}) {
                ApplesFall x = Given.sheet(1, 6);
                long last = (long) from + 2 * n;
                boolean stands = from >= 0 && last <= 6;
                int came = from < 0 ? 0 : Math.max(0, Math.min(n, (6 - Math.min(6, from)) / 2));
                due(n + " from " + from, x.houses(0, 1, from, n), stands ? n : -12);
                due("HOUSES by " + n + " from " + from, x.count(0), came);
            }
        }
        ApplesFall full = Given.houses(5);
        Given.row(full, 0, 0, 1, 1, 2);
        due("without room, too", full.houses(0, 0, 0, 2), -12);
    }

    private static void promise28() {
        Sentences.under("Promise 28");
        says("A HOUSE taken for one of KIND k (0 .. 5), or one under that one (also by others between): its NUMBER.");
        for (int number : new int[] {0, 9}) {
            for (int kind = 0; kind < 6; kind++) {
                due("itself, KIND " + kind, Given.house(kind, number).taken(0, kind), number);
                due("HOUSE, KIND " + kind, Given.house(kind, number).taken(0, 0), number);
            }
            due("DREAMER under FAMILY", Given.house(3, number).taken(0, 1), number);
            due("MASTER under HEBBS", Given.house(4, number).taken(0, 2), number);
        }
        ApplesFall x = Given.house(4, 3);
        x.set(1, 0, 8);
        due("NUMBER as it is", x.taken(0, 2), 8);
        says("BAD: k;");
        Sentences.range("taken(0, k)", 0, 5, BAD, k -> Given.house(0, 0).taken(0, k));
        Sentences.range("taken(0, k), no HOUSES", 0, 5, BAD, k -> new ApplesFall().taken(0, k));
        says("-11: no such HOUSE;");
        Sentences.range("taken(house, 0) of 5", 0, 4, -11, h -> Given.houses(5).taken(h, 0));
        Sentences.range("taken(house, 1) of 1", 0, 0, -11, h -> Given.houses(1).taken(h, 1));
        due("no HOUSES", new ApplesFall().taken(0, 0), -11);
        says("-13.");
        int[][] under = {{0}, {0, 1}, {0, 2}, {0, 1, 3}, {0, 2, 4}, {0, 5}};
        for (int kind = 0; kind < 6; kind++) {
            for (int k = 0; k < 6; k++) {
                boolean is = false;
                for (int u : under[kind]) {
                    is |= u == k;
                }
                due("KIND " + kind + " for " + k, Given.house(kind, 4).taken(0, k), is ? 4 : -13);
            }
        }
    }
}
