/**
 * The sentences of the document's Terms, each at its bounds and one step beyond: part 1, its text block, part 2, its
 * text block, part 3, the Details. Each test begins with its sentence, word for word.
 */
public final class TermsBounds {
    private static final int MIN = Integer.MIN_VALUE, MAX = Integer.MAX_VALUE;
    private static final int BAD = -2, STATE = -3, FULL = -4, NONE = -1;
    private static final int[] KINDS = {0, 1, 2, 3, 4, 5};

    public static void main(String[] args) {
        Sentences.under("What it is");
        calls512();
        Sentences.under("Terms");
        things();
        refusals();
        whatFollows();
        understands();
        fall();
        takes();
        tokens();
        grammar();
        numbersOfTexts();
        faults();
        whatTextsTell();
        days();
        thought();
        best();
        laws();
        tells();
        drawn();
        image();
        sheets();
        details();
        Sentences.end();
    }

    private static void says(String words) {
        Sentences.says(words);
    }

    private static void due(String call, long got, long want) {
        Sentences.due(call, got, want);
    }

    // ---- What it is

    private static void calls512() {
        says("An object is used for at most 512 calls after it has been made");
        ApplesFall x = new ApplesFall();
        x.learns(0, 0);
        x.house(0, 0);
        for (int i = 3; i <= 511; i++) {
            due("call " + i, x.run(0, 1, 3), 1);
        }
        due("call 512", x.day(), 1);
    }

    // ---- Terms 1: what there is

    private static void things() {
        says("FACTS 0 .. 11.");
        Sentences.range("learns(1, fact)", 0, 11, BAD, f -> new ApplesFall().learns(1, f));
        Sentences.range("tell(0, fact)", 0, 11, BAD, f -> Given.house(0, 0).tell(0, f));
        Sentences.range("whom(fact, 0, 0)", 0, 11, BAD, f -> Given.house(0, 0).whom(f, 0, 0));
        for (int what = 0; what < 5; what++) {
            int w = what;
            Sentences.range("asks(0, fact, " + w + ")", 0, 11, BAD, f -> Given.house(0, 0).asks(0, f, w));
        }

        says("LAWS (10 at most, numbered from 0):");
        ApplesFall x = new ApplesFall();
        for (int i = 0; i < 10; i++) {
            due("LAW " + i, x.learns(1, i), i);
            due("LAWS", x.count(1), i + 1);
        }
        due("an eleventh LAW", x.learns(1, 10), FULL);
        due("LAWS", x.count(1), 10);
        due("no LAW by it", x.follows(1, 0), 1022);

        says("from some FACTS (bits; none, too) one FACT follows.");
        x = new ApplesFall();
        due("from none", x.learns(0, 3), 0);
        due("what FOLLOWS from none", x.follows(0, 0), 8);
        due("what FOLLOWS from all others", x.follows(4095 - 8, 0), 8);
        x = new ApplesFall();
        x.learns(2047, 11);
        due("all eleven", x.follows(2047, 0), 2048);
        due("all but FACT 0", x.follows(2046, 0), 0);
        due("all but FACT 10", x.follows(1023, 0), 0);

        says("DAY (0 .. 999; 0 at first).");
        due("DAY at first", new ApplesFall().told(0, 0), 0);
        Sentences.range("set(0, 0, v)", 0, 999, BAD, v -> new ApplesFall().set(0, 0, v));
        x = new ApplesFall();
        x.set(0, 0, 998);
        due("day() on 998", x.day(), 0);
        due("DAY", x.told(0, 0), 999);
        due("day() on 999", x.day(), STATE);
        due("DAY", x.told(0, 0), 999);

        says("HOUSES (5 at most, numbered from 0) have a");
        for (int many = 0; many <= 5; many++) {
            numbersOfHouses(many);
        }
        x = new ApplesFall();
        for (int i = 0; i < 5; i++) {
            due("HOUSE " + i, x.house(i, i), i);
        }
        due("a sixth HOUSE", x.house(0, 0), FULL);
        due("HOUSES", x.count(0), 5);

        says("KIND: 0 HOUSE, 1 FAMILY under HOUSE, 2 HEBBS under HOUSE, 3 DREAMER under FAMILY, "
            + "4 MASTER under HEBBS, 5 GIRL under HOUSE;");
        Sentences.range("house(kind, 0)", 0, 5, BAD, k -> new ApplesFall().house(k, 0));
        Sentences.range("taken(0, k)", 0, 5, BAD, k -> Given.house(5, 0).taken(0, k));
        int[] isOf = {1, 1 + 2, 1 + 4, 1 + 2 + 8, 1 + 4 + 16, 1 + 32};
        for (int kind : KINDS) {
            due("KIND " + kind, Given.house(kind, 7).told(0, 5), kind);
            for (int k : KINDS) {
                due("KIND " + kind + " taken for " + k, Given.house(kind, 7).taken(0, k),
                    (isOf[kind] >> k & 1) != 0 ? 7 : -13);
            }
        }

        says("a NUMBER (0 .. 9),");
        Sentences.range("house(0, number)", 0, 9, BAD, v -> new ApplesFall().house(0, v));
        Sentences.range("set(1, 0, v)", 0, 9, BAD, v -> Given.house(0, 5).set(1, 0, v));

        says("KNOW some FACTS (bits; none as one comes),");
        due("as one comes", Given.house(0, 0).told(0, 2), 0);
        Sentences.range("set(2, 0, v)", 0, 4095, BAD, v -> Given.house(0, 0).set(2, 0, v));

        says("have APPLES (0 .. 99; 50 as one comes) on the tree,");
        due("as one comes", Given.house(0, 0).told(0, 3), 50);
        Sentences.range("set(3, 0, v)", 0, 99, BAD, v -> Given.house(0, 0).set(3, 0, v));

        says("RIPE by so much (0 .. 99; 0).");
        due("as one comes", Given.house(0, 0).told(0, 4), 0);
        Sentences.range("set(4, 0, v)", 0, 99, BAD, v -> Given.house(0, 0).set(4, 0, v));

        says("NONE is -1; NO, where a long is answered, -4611686018427387904.");
        due("NONE", ApplesFall.NONE, -1);
        due("NO", ApplesFall.NO, -4611686018427387904L);
        x = Given.house(0, 0);
        due("MISS of no LAWS", x.told(0, 11), -1);
        due("KNOWS WHEN, never", x.asks(0, 0, 0), -1);
        due("chance of no seeds", x.chance(0, 0, 0, 0), -4611686018427387904L);

        says("Quotients are cut toward 0.");
        int[] halves = {0, 0, 1, 1, 2};
        for (int v = 0; v < halves.length; v++) {
            x = Given.house(1, 0);
            Given.rule(x, String.valueOf(v), "0", "1");
            due("half of " + v, x.asks(0, 0, 4), halves[v]);
        }
    }

    /** Of so many, the last one is a HOUSE; the one behind it and -1 are none. */
    private static void numbersOfHouses(int many) {
        for (int h : new int[] {MIN, -1, many - 1, many, MAX}) {
            boolean is = h >= 0 && h < many;
            ApplesFall x = Given.houses(many);
            x.sheet(0, 0, 0);
            String of = h + " of " + many;
            due("told " + of, x.told(h, 3), is ? 50 : BAD);
            due("set " + of, x.set(3, h, 50), is ? 50 : BAD);
            due("run " + of, x.run(h, 0, 1), is ? 50 : BAD);
            due("asks " + of, x.asks(h, 0, 3), is ? 1 : BAD);
            due("best " + of, x.best(h, 0, 1), is ? 0 : BAD);
            due("tells " + of, x.tells(0, h, 0), is ? NONE : BAD);
            due("film " + of, x.film(0, h, 20), is ? 20 : BAD);
            due("taken " + of, x.taken(h, 0), is ? 0 : -11);
            due("tell " + of, x.tell(h, 0), is ? 1 : BAD);
        }
    }

    // ---- Terms 1: refusals

    private interface Call {
        long of(ApplesFall x);
    }

    private static void refused(ApplesFall x, Object before, String call, long code, Call refused) {
        due(call, refused.of(x), code);
        due("all that can be seen, behind " + call, Given.seen(x).equals(before) ? 1 : 0, 1);
    }

    private static void half(String call, long code, Call refused) {
        refused(Given.half(), Given.seen(Given.half()), call, code, refused);
    }

    private static void full(String call, long code, Call refused) {
        refused(Given.full(), Given.seen(Given.full()), call, code, refused);
    }

    private static void refusals() {
        says("Refusals, the first that the call's words name; they change nothing:");
        full("learns, BAD and FULL", BAD, x -> x.learns(1, 12));
        full("house, BAD and FULL", BAD, x -> x.house(0, 10));
        full("feed, BAD and FULL", BAD, x -> x.feed(256));
        half("tells, BAD and -11", BAD, x -> x.tells(3, 0, 8));
        half("sheet, BAD and -14", BAD, x -> x.sheet(0, 3, -1));
        half("sheet, none such and -14", BAD, x -> x.sheet(4, 0, -1));
        half("cell, -11 and -12", -11, x -> x.cell(3, -1, 0));
        half("copy, BAD and all others", BAD, x -> x.copy(3, -1, 4, 0, -1));
        half("copy, -11 and -12", -11, x -> x.copy(3, -1, 0, -1, -1));
        half("copy, -11 of the other and -12", -11, x -> x.copy(0, -1, 3, -1, -1));
        half("copy, -13 and -12", -13, x -> x.copy(0, -1, 1, -1, -1));
        half("houses, BAD and -13", BAD, x -> x.houses(0, 1, -1, 6));
        half("houses, BAD and -11", BAD, x -> x.houses(3, 3, -1, 0));
        half("houses, -13 and -12", -13, x -> x.houses(0, 1, -1, 1));
        half("houses, -11 and -12", -11, x -> x.houses(3, 1, -1, 1));
        half("taken, BAD and -11", BAD, x -> x.taken(9, 6));

        says("BAD (-2: a number is none such or not as told),");
        due("BAD", ApplesFall.BAD, -2);
        half("learns(4096, 0)", BAD, x -> x.learns(4096, 0));
        half("learns(0, 12)", BAD, x -> x.learns(0, 12));
        for (int what = -1; what <= 5; what++) {
            int w = what;
            half("set(" + w + ", 0, 4096)", BAD, x -> x.set(w, 0, 4096));
            half("set(" + w + ", 0, -1)", BAD, x -> x.set(w, 0, -1));
        }
        half("set(3, 2, 7)", BAD, x -> x.set(3, 2, 7));
        half("house(6, 0)", BAD, x -> x.house(6, 0));
        half("told(2, 3)", BAD, x -> x.told(2, 3));
        half("feed(-1)", BAD, x -> x.feed(-1));
        half("force(2)", BAD, x -> x.force(2));
        half("force(-1)", BAD, x -> x.force(-1));
        half("follows(4096, 0)", BAD, x -> x.follows(4096, 0));
        half("laws(19)", BAD, x -> x.laws(19));
        half("tell(2, 0)", BAD, x -> x.tell(2, 0));
        half("tell(0, 12)", BAD, x -> x.tell(0, 12));
        half("run(0, 41, 0)", BAD, x -> x.run(0, 41, 0));
        half("asks(0, 12, 0)", BAD, x -> x.asks(0, 12, 0));
        half("best(0, 41, 0)", BAD, x -> x.best(0, 41, 0));
        half("whom(0, 41, 0)", BAD, x -> x.whom(0, 41, 0));
        half("tells(2, 0, 0) of 21", BAD, x -> x.tells(2, 0, 0));
        half("film(0, 0, 21)", BAD, x -> x.film(0, 0, 21));
        half("film(0, 0, -1)", BAD, x -> x.film(0, 0, -1));
        half("film(0, 2, 3)", BAD, x -> x.film(0, 2, 3));
        half("count(6)", BAD, x -> x.count(6));
        half("sheet(0, 0, 41)", BAD, x -> x.sheet(0, 0, 41));
        half("cell(4, 0, 0)", BAD, x -> x.cell(4, 0, 0));
        half("houses(0, 0, 0, 6)", BAD, x -> x.houses(0, 0, 0, 6));
        half("chance(0, 21, 0, 0)", ApplesFall.NO, x -> x.chance(0, 21, 0, 0));

        says("STATE (-3),");
        due("STATE", ApplesFall.STATE, -3);
        half("tell(0, 0)", STATE, x -> x.tell(0, 0));
        half("back()", STATE, x -> x.back());
        full("day()", STATE, x -> x.day());

        says("FULL (-4);");
        due("FULL", ApplesFall.FULL, -4);
        full("learns(1, 1)", FULL, x -> x.learns(1, 1));
        full("house(0, 0)", FULL, x -> x.house(0, 0));
        full("feed(65)", FULL, x -> x.feed(65));
        full("text()", FULL, x -> x.text());

        says("the host's: -11 nothing where something is asked,");
        half("tells(3, 0, 0)", -11, x -> x.tells(3, 0, 0));
        half("cell(3, 0, 7)", -11, x -> x.cell(3, 0, 7));
        half("copy(3, 0, 0, 0, 1)", -11, x -> x.copy(3, 0, 0, 0, 1));
        half("copy(0, 0, 3, 0, 1)", -11, x -> x.copy(0, 0, 3, 0, 1));
        half("houses(3, 0, 0, 0)", -11, x -> x.houses(3, 0, 0, 0));
        half("taken(2, 0)", -11, x -> x.taken(2, 0));

        says("-12 a place outside,");
        half("cell(0, 20, 7)", -12, x -> x.cell(0, 20, 7));
        half("cell(0, -1, 7)", -12, x -> x.cell(0, -1, 7));
        half("copy up, one too many", -12, x -> x.copy(0, 0, 0, 1, 20));
        half("copy down, one too many", -12, x -> x.copy(0, 1, 0, 0, 20));
        half("copy(0, 0, 0, 1, -1)", -12, x -> x.copy(0, 0, 0, 1, -1));
        half("houses(0, 0, 19, 1)", -12, x -> x.houses(0, 0, 19, 1));
        full("houses(2, 2, 39, 1)", -12, x -> x.houses(2, 2, 39, 1));

        says("-13 a thing of another sort or KIND,");
        half("copy(0, 0, 1, 0, 1)", -13, x -> x.copy(0, 0, 1, 0, 1));
        half("houses(0, 1, 0, 1)", -13, x -> x.houses(0, 1, 0, 1));
        half("taken(0, 1)", -13, x -> x.taken(0, 1));

        says("-14 a size below 0.");
        half("sheet(0, 0, -1)", -14, x -> x.sheet(0, 0, -1));
        half("sheet(3, 2, MIN)", -14, x -> x.sheet(3, 2, MIN));
    }

    // ---- Terms 1, the text block: what houses make of laws

    private static void whatFollows() {
        says("FOLLOWS from a set of FACTS: that FACT of each LAW all whose FACTS are of the set; "
            + "what isn't of the set itself.");
        ApplesFall x = new ApplesFall();
        x.learns(2049, 5);
        x.learns(1, 6);
        x.learns(1, 6);
        due("from none", x.follows(0, 0), 0);
        due("one of its FACTS is missing", x.follows(2048, 0), 0);
        due("another is missing", x.follows(1, 0), 64);
        due("all its FACTS", x.follows(2049, 0), 32 + 64);
        due("of the set itself", x.follows(2049 + 32, 0), 64);
        due("from all", x.follows(4095, 0), 0);

        says("ALL that follows: the set, with what FOLLOWS, again and again.");
        ApplesFall up = new ApplesFall();
        ApplesFall down = new ApplesFall();
        for (int f = 0; f < 10; f++) {
            up.learns(1 << f, f + 1);
            down.learns(1 << 10 - f, 9 - f);
        }
        due("the set itself", up.follows(2048, 1), 2048);
        due("of none", up.follows(0, 1), 0);
        due("ten times again", up.follows(1, 1), 2047);
        due("ten times again, downward", down.follows(1024, 1), 2047);
        due("of all", up.follows(4095, 1), 4095);
    }

    /** A HOUSE of a KIND with NUMBER 5, for which so many of FACTS 3, 5, 7 follow from nothing. */
    private static ApplesFall following(int kind, int many) {
        ApplesFall x = Given.house(kind, 5);
        for (int i = 0; i < many; i++) {
            x.learns(0, 3 + 2 * i);
        }
        return x;
    }

    private static void understood(int kind, int... due) {
        for (int many = 0; many < due.length; many++) {
            ApplesFall x = following(kind, many);
            due("of " + many + " FACTS that follow", x.told(0, 7), due[many]);
            x.day();
            due("a DAY later, of " + many, x.told(0, 2), due[many]);
        }
    }

    private static void understands() {
        says("UNDERSTANDS in a DAY (of what FOLLOWS from what it KNOWS): HOUSE: all of it;");
        understood(0, 0, 8, 40, 168);
        ApplesFall x = Given.house(0, 0);
        Given.chain(x, 2);
        x.set(2, 0, 1);
        due("what FOLLOWS alone", x.told(0, 7), 2);

        says("FAMILY: the least FACT of it;");
        understood(1, 0, 8, 8, 8);
        x = Given.house(1, 0);
        x.learns(0, 11);
        x.learns(0, 0);
        due("FACT 0", x.told(0, 7), 1);
        x.set(2, 0, 1);
        due("FACT 11", x.told(0, 7), 2048);

        says("HEBBS: ALL that follows;");
        understood(2, 0, 8, 40, 168);
        x = Given.house(2, 0);
        Given.chain(x, 10);
        x.set(2, 0, 1);
        due("ten rounds at once", x.told(0, 7), 2046);
        x.set(2, 0, 2048);
        due("nothing", x.told(0, 7), 0);

        says("DREAMER: as a FAMILY, but nothing, if DAY is odd;");
        understood(3, 0, 8, 8, 8);
        int[] days = {0, 1, 2, 3, 998, 999};
        for (int day : days) {
            x = following(3, 3);
            x.set(0, 0, day);
            due("on DAY " + day, x.told(0, 7), day % 2 == 0 ? 8 : 0);
        }
        x.set(0, 0, 999);
        due("on DAY 999, in thought", x.run(0, 1, 0), 0);
        due("on DAY 1000, in thought", x.run(0, 2, 0), 8);
        due("on DAY 1001, in thought", x.run(0, 3, 0), 8);
        due("on DAY 1002, in thought", x.run(0, 4, 0), 40);

        says("MASTER: as HEBBS, without FACT NUMBER;");
        understood(4, 0, 8, 8, 136);
        x = Given.house(4, 0);
        x.learns(0, 0);
        x.learns(0, 9);
        due("NUMBER 0", x.told(0, 7), 512);
        x.set(1, 0, 9);
        due("NUMBER 9", x.told(0, 7), 1);
        x.set(1, 0, 8);
        due("NUMBER 8", x.told(0, 7), 513);

        says("GIRL: all of it, if there are 2 or more, else nothing.");
        understood(5, 0, 0, 40, 168);
    }

    /** What FALLS for a FACT by a HOUSE of a KIND, NUMBER, RIPE, when falls says v. */
    private static int fall(int kind, int number, int ripe, int v) {
        ApplesFall x = Given.house(kind, number);
        x.set(4, 0, ripe);
        Given.rule(x, String.valueOf(v), "0", "1");
        return x.asks(0, 0, 4);
    }

    private static final int[] TOLD = {-9999, -1, 0, 1, 2, 3, 48, 49, 50, 97, 98, 99, 100, 101, 9999};

    private static void falls(int kind, int number, int ripe, int... due) {
        for (int i = 0; i < TOLD.length; i++) {
            String call = "FALL of NUMBER " + number + ", RIPE " + ripe + ", falls " + TOLD[i];
            due(call, fall(kind, number, ripe, TOLD[i]), due[i]);
        }
    }

    private static void fall() {
        says("FALL (apples for one FACT, falls telling v): HOUSE: v;");
        falls(0, 9, 99, 0, 0, 0, 1, 2, 3, 48, 49, 50, 97, 98, 99, 99, 99, 99);
        says("FAMILY: half (cut) of a HOUSE's;");
        falls(1, 9, 99, 0, 0, 0, 0, 1, 1, 24, 24, 25, 48, 49, 49, 49, 49, 49);
        says("HEBBS: 1 more than a HOUSE;");
        falls(2, 9, 99, 1, 1, 1, 2, 3, 4, 49, 50, 51, 98, 99, 99, 99, 99, 99);
        says("DREAMER: NUMBER more than a FAMILY;");
        falls(3, 0, 99, 0, 0, 0, 0, 1, 1, 24, 24, 25, 48, 49, 49, 49, 49, 49);
        falls(3, 1, 99, 1, 1, 1, 1, 2, 2, 25, 25, 26, 49, 50, 50, 50, 50, 50);
        falls(3, 9, 99, 9, 9, 9, 9, 10, 10, 33, 33, 34, 57, 58, 58, 58, 58, 58);
        says("MASTER: as HEBBS;");
        falls(4, 9, 99, 1, 1, 1, 2, 3, 4, 49, 50, 51, 98, 99, 99, 99, 99, 99);
        falls(4, 0, 0, 1, 1, 1, 2, 3, 4, 49, 50, 51, 98, 99, 99, 99, 99, 99);
        says("GIRL: twice a HOUSE's, if RIPE is above 50, else 0.");
        for (int ripe : new int[] {0, 49, 50, 51, 52, 99}) {
            due("falls 7, RIPE " + ripe, fall(5, 9, ripe, 7), ripe > 50 ? 14 : 0);
        }
        falls(5, 9, 51, 0, 0, 0, 2, 4, 6, 96, 98, 99, 99, 99, 99, 99, 99, 99);

        says("(FALL 0 .. 99, else the bound: laid on what comes out, v being held as told below.)");
        due("HEBBS, 98 and 1 more", fall(2, 0, 0, 98), 99);
        due("HEBBS, 99 and 1 more", fall(2, 0, 0, 99), 99);
        due("MASTER, 99 and 1 more", fall(4, 0, 0, 99), 99);
        due("GIRL, twice 49", fall(5, 0, 51, 49), 98);
        due("GIRL, twice 50", fall(5, 0, 51, 50), 99);
        due("FAMILY, half of what is held", fall(1, 0, 0, 198), 49);
        due("HEBBS, 1 more than what is held", fall(2, 0, 0, -1), 1);
        due("DREAMER, more than what is held", fall(3, 4, 0, -8), 4);
    }

    private static int takes(int kind, String takes, boolean follows, int fact) {
        ApplesFall x = Given.house(kind, 4);
        if (follows) {
            x.learns(0, 7);
        }
        Given.rule(x, "0", "0", takes);
        int would = x.asks(0, fact, 3);
        due("tell, as it would be", x.tell(0, fact), would);
        return would;
    }

    private static void takes() {
        says("TAKES (a FACT that it is told, takes telling yes, if it isn't 0):");
        for (String yes : new String[] {"1", "-1", "2", "9999", "2048*1024*1024"}) {
            due("takes " + yes, takes(0, yes, false, 4), 1);
        }
        for (String no : new String[] {"0", "-0", "2048*1024*1024*2"}) {
            due("takes " + no, takes(0, no, false, 4), 0);
        }
        says("HOUSE: if yes;");
        due("yes", takes(0, "1", false, 4), 1);
        due("no", takes(0, "0", true, 4), 0);
        says("FAMILY: if yes, and what FOLLOWS from what it KNOWS is something;");
        due("yes, and something", takes(1, "1", true, 4), 1);
        due("yes, and nothing", takes(1, "1", false, 4), 0);
        due("no, and something", takes(1, "0", true, 4), 0);
        due("no, and nothing", takes(1, "0", false, 4), 0);
        ApplesFall x = Given.house(1, 0);
        x.learns(0, 7);
        x.set(2, 0, 128);
        due("what FOLLOWS is KNOWN already", x.asks(0, 4, 3), 0);
        says("HEBBS: always;");
        due("yes", takes(2, "1", false, 4), 1);
        due("no", takes(2, "0", false, 4), 1);
        says("DREAMER: if yes;");
        due("yes, and nothing FOLLOWS", takes(3, "1", false, 4), 1);
        due("no, and something FOLLOWS", takes(3, "0", true, 4), 0);
        x = Given.house(3, 0);
        x.set(0, 0, 1);
        due("yes, on an odd DAY", x.asks(0, 4, 3), 1);
        says("MASTER: as HEBBS, but not FACT NUMBER;");
        for (String takes : new String[] {"0", "1"}) {
            due("FACT NUMBER", takes(4, takes, true, 4), 0);
            due("one below", takes(4, takes, false, 3), 1);
            due("one above", takes(4, takes, false, 5), 1);
        }
        says("GIRL: if yes.");
        due("yes, and nothing FOLLOWS", takes(5, "1", false, 4), 1);
        due("no, and something FOLLOWS", takes(5, "0", true, 4), 0);
    }

    // ---- Terms 1, the text block: texts

    /** The place of the FAULT of a text, or NONE. */
    private static void fault(String text, int place) {
        ApplesFall x = new ApplesFall();
        due("text() of " + text.replace('\n', '~'), Given.read(x, text), place == NONE ? 1 : -100 - place);
        due("THE TAPE behind it", x.count(4), 0);
        due("TEXTS behind it", x.count(3), place == NONE ? 2 : 1);
    }

    /** As fault, of a text whose falls, from place 6 on, says this. */
    private static void faultOf(String e, int place) {
        fault("falls " + e + ";ripens 1;takes 1;", place == NONE ? NONE : place + 6);
    }

    private static String filled(int size) {
        StringBuilder text = new StringBuilder("falls 7;ripens 1;takes 1");
        while (text.length() < size - 1) {
            text.append(' ');
        }
        return text.append(';').toString();
    }

    private static void tokens() {
        says("A TEXT is read from THE TAPE (160 bytes at most).");
        fault(filled(159), NONE);
        fault(filled(160), NONE);
        fault(filled(161), 160);
        ApplesFall x = new ApplesFall();
        for (int i = 1; i <= 160; i++) {
            due("byte " + i, x.feed(' '), i);
        }
        due("byte 161", x.feed(' '), FULL);
        due("THE TAPE", x.count(4), 160);
        due("text() of blanks", x.text(), -260);

        says("TOKENS, each as long as can be:");
        fault("falls1;ripens1;takes1;", NONE);
        faultOf("fact or ripe", NONE);
        faultOf("factor ripe", 0);
        faultOf("fact orripe", 5);
        faultOf("1or 2", NONE);
        faultOf("1or2", NONE);
        faultOf("fact1", 4);
        faultOf("1fact", 1);
        faultOf("12 34", 3);

        says("WORDS (a .. z),");
        faultOf("fact" + (char) ('a' - 1), 4);
        faultOf("facta", 0);
        faultOf("factz", 0);
        faultOf("fact" + (char) ('z' + 1), 4);
        faultOf("factA", 4);
        faultOf("Fact", 0);

        says("NUMBERS (as many digits as stand there, 4 at most),");
        faultOf("1" + (char) ('0' - 1), 1);
        faultOf("10", NONE);
        faultOf("19", NONE);
        faultOf("1" + (char) ('9' + 1), 1);
        faultOf("999", NONE);
        faultOf("9999", NONE);
        faultOf("0000", NONE);
        faultOf("10000", 0);
        faultOf("00000", 0);
        faultOf("9999 9", 5);
        due("9999", Given.isTrue("9999=9998+1"), 1);
        due("0012", Given.falls("0012"), 12);

        says("SIGNS ( ) ; + - * < = ;");
        for (int b = 0; b < 256; b++) {
            char c = (char) b;
            boolean isOfTwo = "+-*<=".indexOf(c) >= 0;
            boolean isDigit = c >= '0' && c <= '9';
            boolean endsE = c == ' ' || c == '\n' || c == ';';
            faultOf("1" + c + "2", isOfTwo || isDigit ? NONE : endsE ? 2 : 1);
        }
        faultOf("(1)", NONE);

        says("blanks (32, 10) may stand between.");
        fault(" \n falls\n\n1 ;\n ripens 1 ; takes 1 ; \n", NONE);
        for (int b : new int[] {0, 9, 11, 12, 13, 31, 33, 127, 160, 255}) {
            faultOf("1 " + (char) b + " ", 2);
            fault((char) b + "falls 1;ripens 1;takes 1;", 0);
            fault("falls 1;ripens 1;takes 1;" + (char) b, 25);
        }
        faultOf("fa ct", 0);
        faultOf("1 2", 2);
    }

    private static void grammar() {
        says("TEXT: falls E ; ripens E ; takes E ;");
        String[] all = {"falls", "1", ";", "ripens", "1", ";", "takes", "1", ";"};
        for (int i = 0; i <= all.length; i++) {
            withoutOneToken(all, i);
        }

        says("E: AND { or AND }.");
        due("none", Given.falls("0"), 0);
        due("one", Given.falls("5"), 5);
        due("two", Given.falls("0 or 5"), 1);
        due("many", Given.falls("0 or 0 or 0 or 0 or 0 or 0 or 0 or 5"), 1);
        due("many, none true", Given.falls("0 or 0 or 0 or 0 or 0 or 0 or 0 or 0"), 0);
        faultOf("or 1", 0);
        faultOf("1 or", 4);
        faultOf("1 or or 1", 5);

        says("AND: NOT { and NOT }.");
        due("two", Given.falls("5 and 7"), 1);
        due("many", Given.falls("1 and 2 and 3 and 4 and 5 and 6 and 7"), 1);
        due("many, one false", Given.falls("1 and 2 and 3 and 4 and 5 and 0 and 7"), 0);
        due("and ahead of or", Given.falls("1 or 0 and 0"), 1);
        due("and ahead of or, behind", Given.falls("0 and 0 or 1"), 1);
        faultOf("and 1", 0);
        faultOf("1 and", 5);
        faultOf("1 and and 1", 6);

        says("NOT: not NOT, or SUM, perhaps < or = and a SUM.");
        due("not", Given.falls("not 0"), 1);
        due("not not", Given.falls("not not 5"), 1);
        due("not of what is compared", Given.falls("not 2<1"), 1);
        due("not ahead of and", Given.falls("not 1 and 0"), 0);
        due("SUMS compared", Given.falls("1+1<3+0"), 1);
        faultOf("1<2<3", 3);
        faultOf("1<2=3", 3);
        faultOf("1=2<3", 3);
        faultOf("1<", 2);
        faultOf("<1", 0);
        faultOf("1=not 0", 2);
        faultOf("1+not 0", 2);
        faultOf("not", 3);

        says("SUM: TERM { + or - TERM }.");
        due("one after the other", Given.falls("90-20-30-10"), 30);
        due("both", Given.falls("9+8-7+6-5"), 11);
        faultOf("+1", 0);
        faultOf("1+", 2);
        faultOf("1-", 2);
        faultOf("1++1", 2);

        says("TERM: ONE { * ONE }.");
        due("many", Given.falls("2*3*2*4"), 48);
        due("ahead of a SUM", Given.falls("1+2*3"), 7);
        faultOf("*1", 0);
        faultOf("1*", 2);
        faultOf("1**1", 2);

        says("ONE: a NUMBER, a NAME, - ONE, ( E ).");
        due("a NUMBER", Given.falls("8"), 8);
        due("a NAME", Given.falls("apples"), 50);
        due("- ONE", Given.falls("9+-8"), 1);
        due("- ONE is ahead of *", Given.falls("0--2*3"), 6);
        due("( E )", Given.falls("(1 or 0)*9"), 9);
        faultOf("", 0);
        faultOf("()", 1);
        faultOf("(1", 2);
        faultOf("1)", 1);
        faultOf("-", 1);

        says("NAMES are fact ripe number day known apples;");
        for (String name : new String[] {"fact", "ripe", "number", "day", "known", "apples"}) {
            faultOf(name, NONE);
            partsOf(name);
        }
        says("falls, ripens, takes, or, and, not are KEYS.");
        for (String key : new String[] {"falls", "ripens", "takes", "or", "and"}) {
            faultOf(key, 0);
            faultOf("1+" + key, 2);
            partsOf(key);
        }
        partsOf("not");
        for (String near : new String[] {"fall", "fallss", "ripen", "take", "o", "an", "no", "orr", "nots"}) {
            fault(near + " 1;ripens 1;takes 1;", 0);
            faultOf("1 " + near + " 1", 2);
        }
    }

    /** What a WORD begins or ends with (but for ripe of ripens), what is longer by a letter, is neither KEY nor NAME. */
    private static void partsOf(String word) {
        for (int i = 1; i < word.length(); i++) {
            String begins = word.substring(0, i);
            faultOf(begins, begins.equals("ripe") ? NONE : 0);
            faultOf(word.substring(i), 0);
        }
        for (char c = 'a'; c <= 'z'; c++) {
            faultOf(word + c, 0);
            faultOf("1+" + c + word, 2);
        }
    }

    /** A text without its token i, with it twice, with a sign that can't stand there, that ends ahead of it. */
    private static void withoutOneToken(String[] all, int i) {
        StringBuilder less = new StringBuilder();
        StringBuilder twice = new StringBuilder();
        StringBuilder otherwise = new StringBuilder();
        StringBuilder ends = new StringBuilder();
        int lessPlace = 0;
        int twicePlace = 0;
        for (int k = 0; k < all.length; k++) {
            if (k == i) {
                lessPlace = less.length();
                twicePlace = twice.length() + all[k].length() + 1;
            }
            if (k < i) {
                ends.append(all[k]).append(' ');
            }
            less.append(k == i ? "" : all[k] + " ");
            twice.append(all[k]).append(' ').append(k == i ? all[k] + " " : "");
            otherwise.append(k == i ? ")" : all[k]).append(' ');
        }
        boolean isWhole = i == all.length;
        fault(ends.toString(), isWhole ? NONE : ends.length());
        fault(less.toString(), isWhole ? NONE : i == all.length - 1 ? less.length() : lessPlace);
        fault(twice.toString(), isWhole ? NONE : twicePlace);
        fault(otherwise.toString(), isWhole ? NONE : lessPlace);
    }

    private static void numbersOfTexts() {
        says("An E is an int (32 bits, wrapping): of or, and, not, <, = 1 or 0 (what is not 0 is true).");
        String low = "2048*1024*1024";
        String high = "(" + low + "-1)";
        due("2 to the 31st is below 0", Given.isTrue(low + "<0"), 1);
        due("one less is above", Given.isTrue("0<" + high), 1);
        due("one more is below again", Given.isTrue(high + "+1<0"), 1);
        due("one less than the least is the most", Given.isTrue("-(" + low + ")-1=" + high), 1);
        due("the least of all, with - ahead", Given.isTrue("-(" + low + ")=" + low), 1);
        due("2 to the 32nd is 0", Given.falls("256*256*256*256"), 0);
        due("2 to the 32nd and 7", Given.falls("256*256*256*256+7"), 7);
        due("the least is less than the most", Given.isTrue(low + "<" + high), 1);
        due("the most isn't less than the least", Given.isTrue(high + "<" + low), 0);
        due("the least is true", Given.falls("not " + low), 0);
        due("or", Given.falls("(7 or 7)+(0 or 7)*2+(7 or 0)*4+(0 or 0)*8"), 7);
        due("and", Given.falls("(7 and 7)+(0 and 7)*2+(7 and 0)*4+(0 and 0)*8"), 1);
        due("not", Given.falls("(not 7)+(not 0)*2+(not 1)*4+(not -1)*8"), 2);
        due("<", Given.falls("(1<2)+(2<2)*2+(3<2)*4+(-1<0)*8"), 9);
        due("=", Given.falls("(1=2)+(2=2)*2+(3=2)*4+(-1=1)*8"), 2);
        due("what is below 0 is true", Given.falls("-1 and -5"), 1);
    }

    private static String times(String words, int many) {
        return words.repeat(Math.max(0, many));
    }

    private static void faults() {
        says("FAULT: the place of the first byte of the first TOKEN that can't stand there");
        fault("takes 1;ripens 1;takes ?;", 0);
        fault("falls 1;  falls 1;takes ?;", 10);
        faultOf("1 number", 2);
        faultOf("(1 number)", 3);
        faultOf("1   12", 4);

        says("(the text's size, if it ends too early),");
        fault("", 0);
        fault(" ", 1);
        fault("falls", 5);
        fault("falls \n", 7);
        fault("falls 1;ripens 1;takes 1", 24);
        fault("falls 1;ripens 1;takes 1 \n ", 27);
        fault("falls (", 7);
        fault("falls not", 9);
        fault("falls 1;ripens 1;takes 1;", NONE);

        says("also of a byte that begins none,");
        faultOf("?", 0);
        faultOf("1+" + (char) 255, 2);
        fault("falls 1;ripens 1;takes 1;" + (char) 0, 25);

        says("a WORD that is neither KEY nor NAME,");
        faultOf("1+  apple", 4);
        faultOf("x", 0);
        fault("falls 1;ripens 1;takes 1;z", 25);

        says("a NUMBER that is too long,");
        faultOf("1+  1234", NONE);
        faultOf("1+  12345", 4);
        faultOf("00001", 0);

        says("a ( , a not, a - ahead of a ONE while 5 of these are open "
            + "(a ( till its ) , not and - till what they belong to ends).");
        for (String one : new String[] {"(", "not ", "-"}) {
            String close = one.equals("(") ? ")" : "";
            faultOf(times(one, 4) + "1" + times(close, 4), NONE);
            faultOf(times(one, 5) + "1" + times(close, 5), NONE);
            faultOf(times(one, 6) + "1" + times(close, 6), 5 * one.length());
            faultOf(times(one, 4) + "(1)" + times(close, 4), NONE);
            faultOf(times(one, 5) + "(1)" + times(close, 5), 5 * one.length());
            faultOf(times(one, 4) + "-1" + times(close, 4), NONE);
            faultOf(times(one, 5) + "-1" + times(close, 5), 5 * one.length());
        }
        faultOf("(((((not 1)))))", 5);
        faultOf("((((not 1))))", NONE);
        faultOf("not(not(not 1))", NONE);
        faultOf("not(not(not not 1))", 12);
        faultOf("-(-(-1))", NONE);
        faultOf("-(-(--1))", 5);
        // What closed is open no more.
        faultOf("(((((1)))))+(((((1)))))", NONE);
        faultOf("((((1)+(1))*(1)))", NONE);
        faultOf("-----1*-----1--1", NONE);
        faultOf("-----1+(1)", NONE);
        faultOf("not not not not not 1 and (1)", NONE);
        faultOf("not not not not not 1 or not 1", NONE);
        // A not goes on behind < and = , a - doesn't; a - between TERMS is none of these.
        faultOf("not not not not not 1 < (1)", 24);
        faultOf("not not not not 1 < (1)", NONE);
        faultOf("not not not not not 1 + (1)", 24);
        faultOf("not not not not not -1", 20);
        faultOf("(((((1-1)))))", NONE);
        faultOf("(((((1--1)))))", 7);
        fault("falls (((((1)))));ripens (((((1)))));takes (((((1)))));", NONE);
        // Five open, and in each as much waits as can: 0 or (1 and (0 < (0 + (1 * ( .. .
        String waits = "0or 1and 0<0+1*(";
        due("as much as can be open", Given.falls(times(waits, 5) + "0or 1and 0<0+1*1" + times(")", 5)), 1);
        faultOf(times(waits, 5) + "1*(1)" + times(")", 5), 5 * waits.length() + 2);
    }

    private static void whatTextsTell() {
        says("There are 6 TEXTS at most, TEXT 0 with them.");
        ApplesFall x = new ApplesFall();
        for (int i = 1; i <= 5; i++) {
            due("TEXTS", x.count(3), i);
            due("TEXT " + i, Given.read(x, Given.PLAIN), i);
        }
        due("a seventh", Given.read(x, Given.PLAIN), FULL);
        due("TEXTS", x.count(3), 6);
        due("force(5)", x.force(5), 0);
        due("force(6)", x.force(6), BAD);

        says("Of a HOUSE and a FACT: fact: the FACT (of ripens 0);");
        for (int f = 0; f < 12; f++) {
            x = Given.house(0, 0);
            Given.rule(x, "fact", "fact+1", "fact=" + f);
            due("falls by FACT " + f, x.asks(0, f, 4), f);
            due("takes by FACT " + f, x.asks(0, f, 3), 1);
            due("takes by another FACT", x.asks(0, (f + 1) % 12, 3), 0);
            x.learns(0, f);
            due("ripens by no FACT", x.run(0, 1, 2), 1);
        }

        says("ripe: RIPE;");
        named("ripe", 4, 0, 98, 99);
        says("number: NUMBER;");
        named("number", 1, 0, 8, 9);
        says("day: DAY;");
        named("day", 0, 0, 998, 999);
        says("known: how many FACTS it KNOWS;");
        for (int many = 0; many <= 12; many++) {
            x = Given.house(0, 0);
            x.set(2, 0, (1 << many) - 1);
            Given.rule(x, "known", "0", "known=" + many);
            due("KNOWS " + many, x.asks(0, 0, 4), many);
            due("KNOWS " + many, x.asks(0, 0, 3), 1);
        }
        says("apples: APPLES.");
        named("apples", 3, 0, 98, 99);

        says("falls (0 .. 99, else the bound),");
        for (int v : new int[] {-9999, -1, 0, 1, 98, 99, 100, 9999}) {
            due("falls " + v, Given.falls(String.valueOf(v)), Math.max(0, Math.min(99, v)));
        }
        due("falls the least of all", Given.falls("2048*1024*1024"), 0);
        due("falls the most of all", Given.falls("2048*1024*1024-1"), 99);

        says("ripens (-9 .. 9, else the bound),");
        for (int v : new int[] {-9999, -10, -9, -8, 0, 8, 9, 10, 9999}) {
            due("ripens " + v, ripe(50, String.valueOf(v)), 50 + Math.max(-9, Math.min(9, v)));
        }
        due("ripens the least of all", ripe(50, "2048*1024*1024"), 41);
        due("ripens the most of all", ripe(50, "2048*1024*1024-1"), 59);

        says("takes.");
        for (int v : new int[] {-9999, -1, 0, 1, 9999}) {
            due("takes " + v, takes(0, String.valueOf(v), false, 0), v == 0 ? 0 : 1);
        }

        says("TEXT 0, at first THE RULE, is: falls 1 + ripe < 20 ; ripens 1 ; takes 1 ;");
        x = Given.house(0, 0);
        due("THE RULE", x.count(5), 0);
        for (int ripe : new int[] {0, 18, 19, 20, 99}) {
            x.set(4, 0, ripe);
            due("falls, RIPE " + ripe, x.asks(0, 0, 4), ripe < 19 ? 1 : 0);
            due("takes, RIPE " + ripe, x.asks(0, 0, 3), 1);
            due("ripens, RIPE " + ripe, x.run(0, 1, 2), Math.min(99, ripe + 1));
        }
    }

    /** This NAME is each of these numbers, in falls, ripens and takes, when what of set() is so. */
    private static void named(String name, int what, int... numbers) {
        for (int v : numbers) {
            ApplesFall x = Given.house(0, 0);
            x.set(what, 0, v);
            Given.rule(x, "(" + name + "=" + v + ")*7", "(" + name + "=" + v + ")*-7+3", name + "=" + v);
            due("falls, " + v, x.asks(0, 0, 4), 7);
            due("takes, " + v, x.asks(0, 0, 3), 1);
            due("ripens, " + v, x.run(0, 1, 2), what == 4 ? Math.max(0, v - 4) : 0);
            if (v > 0) {
                x.set(what, 0, v - 1);
                due("falls, one less", x.asks(0, 0, 4), 0);
                due("takes, one less", x.asks(0, 0, 3), 0);
                due("ripens, one less", x.run(0, 1, 2), what == 4 ? Math.min(99, v + 2) : 3);
            }
        }
    }

    /** RIPE behind a DAY, when ripens says so. */
    private static int ripe(int ripe, String ripens) {
        ApplesFall x = Given.house(0, 0);
        x.set(4, 0, ripe);
        Given.rule(x, "0", ripens, "1");
        x.day();
        return x.told(0, 4);
    }

    // ---- Terms 2: days

    private static void days() {
        says("A DAY: each HOUSE, by numbers: what it UNDERSTANDS is told, and of each such FACT what FALLS, "
            + "together (all told as it is ahead);");
        due("day() of no HOUSES", new ApplesFall().day(), 0);
        ApplesFall x = new ApplesFall();
        x.learns(0, 2);
        x.learns(0, 7);
        for (int h = 0; h < 5; h++) {
            x.house(0, h);
        }
        Given.rule(x, "fact*(known=0)*(apples=50)*(ripe=0)+number", "1", "1");
        due("two FACTS of each of five", x.day(), 5 * (2 + 7) + 2 * (0 + 1 + 2 + 3 + 4));
        for (int h = 0; h < 5; h++) {
            due("APPLES of " + h, x.told(h, 3), 50 - 9 - 2 * h);
        }

        says("it KNOWS these, too;");
        for (int h = 0; h < 5; h++) {
            due("what " + h + " KNOWS", x.told(h, 2), 132);
        }
        x = Given.house(0, 0);
        x.learns(0, 0);
        x.set(2, 0, 2048);
        x.day();
        due("and what it knew", x.told(0, 2), 2049);

        says("APPLES are that much less (0 at least);");
        for (int apples = 0; apples < 12; apples++) {
            x = Given.house(0, 0);
            x.learns(0, 0);
            x.learns(0, 1);
            x.set(3, 0, apples);
            Given.rule(x, "5", "0", "1");
            due("ten fall of " + apples, x.day(), Math.min(10, apples));
            due("left of " + apples, x.told(0, 3), Math.max(0, apples - 10));
        }

        says("RIPE is more by what ripens says (0 .. 99, else the bound; told as it is then).");
        due("98 and 1", ripe(98, "1"), 99);
        due("99 and 1", ripe(99, "1"), 99);
        due("90 and 9", ripe(90, "9"), 99);
        due("91 and 9", ripe(91, "9"), 99);
        due("99 and 9", ripe(99, "9"), 99);
        due("1 less 1", ripe(1, "-1"), 0);
        due("0 less 1", ripe(0, "-1"), 0);
        due("9 less 9", ripe(9, "-9"), 0);
        due("8 less 9", ripe(8, "-9"), 0);
        x = Given.house(0, 0);
        x.learns(0, 0);
        Given.rule(x, "3", "(known=1)*(apples=47)*(ripe=0)*(day=0)*5", "1");
        x.day();
        due("told as it is then", x.told(0, 4), 5);

        says("Then DAY is 1 more.");
        due("DAY", x.told(0, 0), 1);
        x.set(0, 0, 998);
        x.day();
        due("DAY", x.told(0, 0), 999);

        says("BASKET (in thought): how many APPLES a HOUSE has less then than now.");
        x = Given.house(0, 0);
        x.learns(0, 0);
        Given.rule(x, "99", "0", "1");
        due("all of it, no more", x.run(0, 1, 3), 50);
        due("as best tells it", x.best(0, 1, 1), 50);
        due("none behind no DAY", x.run(0, 0, 3), 0);
        x.set(3, 0, 0);
        due("none of none", x.run(0, 40, 3), 0);

        says("TOLD a FACT, truly: a HOUSE that doesn't KNOW it KNOWS it, if it TAKES it (for that nothing FALLS).");
        x = Given.house(0, 0);
        Given.rule(x, "9", "9", "fact<11");
        due("TAKES FACT 10", x.tell(0, 10), 1);
        due("KNOWS it", x.told(0, 2), 1024);
        due("nothing FELL", x.told(0, 3), 50);
        due("no riper", x.told(0, 4), 0);
        due("doesn't TAKE FACT 11", x.tell(0, 11), 0);
        due("doesn't KNOW it", x.told(0, 2), 1024);
        due("told what it KNOWS", x.tell(0, 10), STATE);
    }

    private static void thought() {
        says("n DAYS (0 .. 40), in thought (there DAY may pass 999):");
        Sentences.range("run(0, n, 0)", 0, 40, BAD, n -> Given.house(0, 0).run(0, n, 0));
        Sentences.range("best(0, n, 0)", 0, 40, BAD, n -> Given.house(0, 0).best(0, n, 0));
        Sentences.range("whom(0, n, 0)", 0, 40, BAD, n -> Given.house(0, 0).whom(0, n, 0));
        ApplesFall x = Given.house(0, 0);
        due("none", x.run(0, 0, 2), 0);
        due("39", x.run(0, 39, 2), 39);
        due("40", x.run(0, 40, 2), 40);
        x.set(0, 0, 999);
        for (int day : new int[] {999, 1000, 1001, 1038}) {
            Given.rule(x, "0", "day=" + day, "1");
            due("ahead of DAY " + day, x.run(0, day - 999, 2), 0);
            due("behind DAY " + day, x.run(0, day - 998, 2), 1);
        }
        due("DAY stays", x.told(0, 0), 999);
        x = Given.house(1, 0);
        Given.chain(x, 4);
        x.set(2, 0, 1);
        x.set(0, 0, 998);
        Given.rule(x, "(day-990)*2", "0", "1");
        Given.row(x, 0, 0, 42, 33, 23, 12, 12);
        due("tells past 999", x.tells(0, 0, 0), NONE);
        due("run past 999", x.run(0, 4, 1), 12);
        due("BASKETS past 999", x.run(0, 4, 3), 38);
        due("best past 999", x.best(0, 4, 1), 38);
        due("whom past 999", x.whom(11, 4, 1), 38);
        x.film(1, 0, 5);
        x.copy(1, 0, 0, 0, 5);
        due("film past 999", x.tells(1, 0, 0), NONE);
        due("the same as by hand", x.cell(0, 4, 12), 1);
        due("the same as by hand", x.tells(0, 0, 0), NONE);
        x.set(0, 0, 999);
        due("a DAY later it isn't so", x.tells(0, 0, 0), 0);

        says("what it KNOWS; APPLES; BASKETS of all, together.");
        x = Given.houses(5);
        x.learns(0, 0);
        due("KNOWS", x.run(4, 1, 0), 1);
        due("APPLES", x.run(4, 1, 1), 49);
        due("BASKETS of five", x.run(4, 1, 3), 5);
        due("nothing happened", x.count(2), 250);

        says("KNOWS WHEN (a HOUSE, a FACT): behind how many DAYS (0 .. 40) it KNOWS it; NONE.");
        x = Given.house(3, 0);
        Given.chain(x, 10);
        x.set(2, 0, 1);
        x.set(0, 0, 1);
        due("KNOWS it", x.asks(0, 0, 0), 0);
        due("the first", x.asks(0, 1, 0), 2);
        // Ten LAWS and every other DAY: no HOUSE ever comes to KNOW anything later than so.
        due("the latest there is", x.asks(0, 10, 0), 20);
        due("never", x.asks(0, 11, 0), NONE);
        x = Given.house(5, 0);
        x.learns(0, 5);
        due("never, though it follows", x.asks(0, 5, 0), NONE);

        says("FEWEST (a HOUSE, a FACT): of all sets of FACTS that it doesn't KNOW, such that, did it KNOW these, too, "
            + "that FACT would be of ALL that follows, that of fewest; of like ones the least as bits.");
        x = Given.house(0, 0);
        x.learns(3, 2);
        x.learns(16, 8);
        x.learns(8, 8);
        x.learns(2, 11);
        due("of one that it KNOWS: none", fewest(x, 4, 2), 0);
        due("of one that follows: none", fewest(x, 3, 2), 0);
        due("one is missing", fewest(x, 1, 2), 2);
        due("the other is missing", fewest(x, 2, 2), 1);
        due("both are missing: itself", fewest(x, 0, 2), 4);
        due("the least of like ones", fewest(x, 0, 8), 8);
        due("the least, below itself", fewest(x, 0, 11), 2);
        due("FACT 0, itself", fewest(x, 0, 0), 1);
        x = Given.house(0, 0);
        due("FACT 11, itself", fewest(x, 2047, 11), 2048);
    }

    private static int fewest(ApplesFall x, int knows, int fact) {
        x.set(2, 0, knows);
        int fewest = x.asks(0, fact, 1);
        due("how many", x.asks(0, fact, 2), Integer.bitCount(fewest));
        return fewest;
    }

    private static void best() {
        says("TELL (a HOUSE, n DAYS): the FACT that it doesn't KNOW, and TAKES, by which, told now, its BASKET is most "
            + "behind n DAYS, if more than else; of like ones the first; NONE.");
        ApplesFall x = Given.house(0, 0);
        x.learns(1 << 4, 0);
        x.learns(1 << 11, 1);
        x.learns(1 << 6, 2);
        due("the first of like ones", x.best(0, 1, 0), 4);
        due("behind no DAY", x.best(0, 0, 0), NONE);
        x.learns(1 << 11, 3);
        due("the most, FACT 11", x.best(0, 1, 0), 11);
        due("its BASKET", x.best(0, 1, 1), 2);
        x.set(2, 0, 1 << 11);
        // 1 and 3 fall without a word; with FACT 4 FACT 0, too.
        due("what it doesn't KNOW", x.best(0, 1, 0), 4);
        due("its BASKET", x.best(0, 1, 1), 3);
        x.set(3, 0, 2);
        due("no more than else: two APPLES fall anyhow", x.best(0, 1, 0), NONE);
        due("the BASKET, as so", x.best(0, 1, 1), 2);
        x.set(3, 0, 3);
        due("one more than else", x.best(0, 1, 0), 4);
        Given.rule(x, "1", "0", "not fact=4");
        due("what it TAKES", x.best(0, 1, 0), 6);
        Given.rule(x, "1", "0", "0");
        due("TAKES none", x.best(0, 1, 0), NONE);
        x.set(2, 0, 4095);
        x.force(0);
        due("KNOWS all", x.best(0, 40, 0), NONE);
        // Told, it KNOWS too much for what falls else: less.
        x = Given.house(0, 0);
        x.learns(0, 0);
        Given.rule(x, "known=0", "0", "1");
        due("less than else", x.best(0, 1, 0), NONE);
        due("the BASKET, as so", x.best(0, 1, 1), 1);
        // Were there a FACT 12 or -1, to know that one, too, would let more fall.
        x = Given.house(0, 0);
        x.learns(1, 11);
        x.set(2, 0, 2047);
        Given.rule(x, "known", "0", "1");
        due("no FACT behind 11, none below 0", x.best(0, 1, 0), NONE);
        due("the BASKET, as so", x.best(0, 1, 1), 11);

        says("WHOM (a FACT, n): the HOUSE that doesn't KNOW it, and TAKES it, told which BASKETS of all, together, are "
            + "most behind n DAYS, if more than else; of like ones the first; NONE.");
        due("no HOUSES", new ApplesFall().whom(0, 40, 0), NONE);
        due("no HOUSES, BASKETS", new ApplesFall().whom(0, 40, 1), 0);
        x = Given.houses(5);
        x.learns(1, 1);
        x.learns(1, 2);
        due("the first of like ones", x.whom(0, 1, 0), 0);
        due("behind no DAY", x.whom(0, 0, 0), NONE);
        x.set(3, 0, 1);
        due("the first that is most", x.whom(0, 1, 0), 1);
        due("BASKETS", x.whom(0, 1, 1), 2);
        x.set(2, 1, 1);
        due("what it KNOWS isn't told again", x.whom(0, 1, 0), 2);
        due("BASKETS of both", x.whom(0, 1, 1), 4);
        for (int h = 0; h < 4; h++) {
            x.set(3, h, 0);
        }
        due("the last HOUSE", x.whom(0, 1, 0), 4);
        x.set(3, 4, 0);
        due("no APPLES: none", x.whom(0, 1, 0), NONE);
        due("BASKETS, as so", x.whom(0, 1, 1), 0);
        x.set(3, 3, 1);
        due("one more than else", x.whom(0, 1, 0), 3);
        Given.rule(x, "1", "0", "0");
        due("none TAKES it", x.whom(0, 1, 0), NONE);
    }

    // ---- Terms 2: laws

    private static ApplesFall laws(int... fromAndFact) {
        ApplesFall x = new ApplesFall();
        for (int i = 0; i + 1 < fromAndFact.length; i += 2) {
            x.learns(fromAndFact[i], fromAndFact[i + 1]);
        }
        return x;
    }

    private static void laws() {
        says("IDLE: LAWS (bits) whose FACT is of ALL that follows from their own FACTS by all other LAWS.");
        due("no LAWS", new ApplesFall().laws(0), 0);
        due("one LAW", laws(1, 1).laws(0), 0);
        due("its FACT is of its own", laws(1, 0).laws(0), 1);
        due("two alike", laws(1, 1, 1, 1).laws(0), 3);
        due("one that asks for more", laws(1, 2, 3, 2).laws(0), 2);
        due("by two others", laws(1, 1, 2, 2, 1, 2).laws(0), 4);
        due("not by itself in a ring", laws(1, 1, 2, 0).laws(0), 0);
        ApplesFall x = new ApplesFall();
        for (int i = 0; i < 10; i++) {
            x.learns(0, 0);
        }
        due("ten alike", x.laws(0), 1023);

        says("NEVER (a HOUSE): FACTS (bits) that it doesn't KNOW behind 40 DAYS.");
        x = Given.house(0, 0);
        due("nothing ever", x.told(0, 10), 4095);
        x.set(2, 0, 4095);
        due("all", x.told(0, 10), 0);
        x = Given.house(3, 0);
        Given.chain(x, 10);
        x.set(2, 0, 1);
        x.set(0, 0, 999);
        due("the slowest", x.told(0, 10), 2048);

        says("MISS (a HOUSE): the LAW without which ALL that follows from what it KNOWS is fewest, if fewer; "
            + "of like ones the first; NONE.");
        due("no LAWS", Given.house(0, 0).told(0, 11), NONE);
        due("two alike: none fewer", missed(1, 1, 1, 1, 1), NONE);
        due("not a LAW that does nothing", missed(1, 2, 3), NONE);
        due("of like ones the first", missed(1, 1, 5, 1, 6), 0);
        due("one more", missed(1, 1, 5, 1, 1, 2, 2), 1);
        due("of three like ones the first", missed(0, 0, 3, 0, 4, 0, 5), 0);
        x = Given.house(0, 0);
        for (int i = 0; i < 9; i++) {
            x.learns(1 << 11, 0);
        }
        x.learns(0, 5);
        due("the last of ten", x.told(0, 11), 9);

        says("ROOTS: FACTS (bits) that no LAW tells.");
        due("no LAWS", new ApplesFall().laws(1), 4095);
        due("FACTS 0 and 11", laws(2, 0, 2, 11).laws(1), 4095 - 2049);
        due("FACT 3 twice", laws(2, 3, 1, 3).laws(1), 4095 - 8);
        x = new ApplesFall();
        for (int f = 0; f < 10; f++) {
            x.learns(0, f);
        }
        due("ten LAWS", x.laws(1), 1024 + 2048);

        says("SAME: twos of FACTS (how many), each of which is of ALL that follows from the other one.");
        due("no LAWS", new ApplesFall().laws(2), 0);
        due("one way", laws(1, 1).laws(2), 0);
        due("both ways", laws(1, 11, 2048, 0).laws(2), 1);
        due("a ring of three", laws(1, 1, 2, 2, 4, 0).laws(2), 3);
        due("a LAW of two FACTS isn't one of each", laws(3, 2, 4, 0, 4, 1).laws(2), 0);
        due("from none: each of the other one", laws(0, 4, 0, 5).laws(2), 1);
        due("ten from none", x.laws(2), 45);
    }

    /** MISS of a HOUSE that KNOWS this, by these LAWS. */
    private static int missed(int knows, int... fromAndFact) {
        ApplesFall x = laws(fromAndFact);
        x.house(0, 0);
        x.set(2, 0, knows);
        return x.told(0, 11);
    }

    // ---- Terms 2: what was told of a tree

    private static int[] same(int apples, int days) {
        int[] row = new int[days];
        java.util.Arrays.fill(row, apples);
        return row;
    }

    private static void tells() {
        says("TOLD: a SHEET tells APPLES of a HOUSE behind 1, 2, .. DAYS (20 at most): "
            + "the first (from 0) that is otherwise; NONE;");
        ApplesFall x = Given.house(0, 0);
        for (int days : new int[] {0, 1, 19, 20}) {
            Given.row(x, 0, 1, same(50, days));
            due(days + " DAYS", x.tells(0, 0, 0), NONE);
        }
        Given.row(x, 0, 1, same(50, 21));
        due("21 DAYS", x.tells(0, 0, 0), BAD);
        Given.row(x, 0, 1, same(50, 20));
        for (int i = 0; i < 20; i++) {
            x.cell(0, i, i % 2 == 0 ? 49 : 51);
            due("otherwise at " + i, x.tells(0, 0, 0), i);
            x.cell(0, i, 50);
        }
        x.cell(0, 19, 0);
        x.cell(0, 3, 0);
        due("the first of two", x.tells(0, 0, 0), 3);

        says("KINDS (bits 0 .. 5),");
        due("all", tells(0, 1, 50), 63);
        due("none", tells(0, 1, 51), 0);
        // One FACT follows, falls 3: HOUSE 3, FAMILY 1, HEBBS 4, DREAMER 1 + 2, MASTER 4 but not FACT 2, GIRL 0.
        due("HOUSE and DREAMER", tells(8, 1, 47), 1 + 8);
        due("FAMILY", tells(8, 1, 49), 2);
        due("HEBBS and MASTER", tells(8, 1, 46), 4 + 16);
        due("GIRL", tells(8, 1, 50), 32);
        due("MASTER and GIRL", tells(4, 1, 50), 16 + 32);

        says("NUMBERS (bits 0 .. 9),");
        due("all", tells(0, 2, 50), 1023);
        x = Given.house(3, 5);
        x.learns(0, 0);
        for (int number = 0; number <= 10; number++) {
            Given.row(x, 0, 2, 50 - number);
            due("NUMBER " + number, x.tells(0, 0, 2), number < 10 ? 1 << number : 0);
        }

        says("how RIPE (of 0 .. 99: how many, the least),");
        x = Given.house(0, 0);
        x.learns(0, 0);
        x.set(4, 0, 30);
        Given.row(x, 0, 2, 40);
        int[] bounds = {-1, 0, 1, 98, 99, 100};
        for (int i = 0; i < 5; i++) {
            Given.rule(x, "(ripe=" + bounds[i] + ")*10", "0", "1");
            due("how many, just " + bounds[i], x.tells(0, 0, 3), i == 0 ? 0 : 1);
            due("the least, just " + bounds[i], x.tells(0, 0, 4), i == 0 ? NONE : bounds[i]);
        }
        x = Given.house(0, 0);
        x.learns(0, 0);
        Given.row(x, 0, 2, 40);
        Given.rule(x, "(ripe=100)*10", "0", "1");
        due("how many, just 100", x.tells(0, 0, 3), 0);
        due("the least, just 100", x.tells(0, 0, 4), NONE);
        Given.rule(x, "(not ripe<7)*10", "0", "1");
        due("how many, 7 or more", x.tells(0, 0, 3), 93);
        due("the least, 7 or more", x.tells(0, 0, 4), 7);
        Given.rule(x, "10", "0", "1");
        due("how many, all", x.tells(0, 0, 3), 100);
        due("the least, all", x.tells(0, 0, 4), 0);

        says("FACTS (bits) such that, were just that one KNOWN now if it isn't, or not if it is, all would be so,");
        x = Given.house(0, 0);
        x.learns(1, 5);
        x.learns(1 << 11, 6);
        x.sheet(0, 0, 0);
        due("no DAYS: all", x.tells(0, 0, 5), 4095);
        Given.row(x, 0, 0, 49);
        due("were one KNOWN", x.tells(0, 0, 5), 1 + 2048);
        x.set(2, 0, 2049);
        due("were one not KNOWN", x.tells(0, 0, 5), 1 + 32 + 64 + 2048);
        Given.row(x, 0, 0, 47);
        due("none", x.tells(0, 0, 5), 0);

        says("TEXTS (bits), were they THE RULE, by which all would be so;");
        x = Given.house(0, 0);
        x.learns(0, 0);
        x.set(4, 0, 19);
        for (int i = 0; i < 6; i++) {
            x.sheet(0, 0, 0);
            due("no DAYS: all of " + (i + 1), x.tells(0, 0, 6), (2 << i) - 1);
            Given.row(x, 0, 0, 50 - i);
            due("just TEXT " + i, x.tells(0, 0, 6), 1 << i);
            Given.row(x, 0, 0, 49 - i);
            due("none yet", x.tells(0, 0, 6), 0);
            due("THE RULE stays", x.count(5), 0);
            due("by which nothing falls", x.asks(0, 0, 4), 0);
            Given.read(x, "falls " + (i + 1) + ";ripens 1;takes 1;");
        }

        says("HOUSES (bits) of which it is so.");
        for (int many = 1; many <= 5; many++) {
            x = Given.houses(many);
            x.sheet(0, 0, 20);
            due("none of " + many, x.tells(0, 0, 7), 0);
            x.set(3, many - 1, 0);
            due("the last of " + many, x.tells(0, 0, 7), 1 << many - 1);
            x.sheet(0, 0, 0);
            due("no DAYS: all of " + many, x.tells(0, 0, 7), (1 << many) - 1);
        }
    }

    /** tells() of a HOUSE of NUMBER 2 for which these FACTS follow, falls 3, behind one DAY. */
    private static int tells(int follow, int what, int apples) {
        ApplesFall x = Given.house(0, 2);
        for (int f = 0; f < 12; f++) {
            if ((follow >> f & 1) != 0) {
                x.learns(0, f);
            }
        }
        Given.rule(x, "3", "0", "1");
        Given.row(x, 0, 0, apples);
        return x.tells(0, 0, what);
    }

    // ---- Terms 2: drawn, the image

    /** Five HOUSES and ten LAWS; takes says no to FACT 3. */
    private static ApplesFall village(int many) {
        ApplesFall x = laws(1, 4, 2, 5, 8, 6, 2048, 7, 1024, 0, 512, 8, 256, 9, 64, 11, 16, 1);
        int[] kinds = {5, 3, 0, 1, 4};
        for (int h = 0; h < many; h++) {
            x.house(kinds[h], h + 2);
            x.set(4, h, 49);
        }
        Given.rule(x, "2+fact-(day<4)", "1", "not fact=3");
        return x;
    }

    /** DRAWN, done truly. */
    private static int drawnTruly(ApplesFall x, int many, int seed) {
        int ahead = x.count(2);
        int z = seed;
        for (int i = 0; i < 10; i++) {
            z = z * 1103515245 + 12345;
            x.tell((z >>> 9) % many, (z >>> 17) % 12);
            x.day();
        }
        return ahead - x.count(2);
    }

    private static void drawn() {
        says("DRAWN by a SEED: 10 DAYS, ahead of each a HOUSE (z >>> 9) % many is TOLD FACT (z >>> 17) % 12, "
            + "z being z * 1103515245 + 12345 (an int; SEED at first) anew for each");
        int[] seeds = {MIN, MIN + 1, -12345, -1, 0, 1, 2, 3, 4, 5, 12345, MAX - 1, MAX};
        for (int many = 1; many <= 5; many++) {
            for (int seed : seeds) {
                due("drawn(" + seed + ") of " + many, village(many).drawn(seed),
                    drawnTruly(village(many), many, seed));
            }
        }
        ApplesFall x = Given.house(1, 0);
        for (int f = 0; f < 10; f++) {
            x.learns(0, f);
        }
        Given.rule(x, "2", "0", "0");
        due("10 DAYS", x.drawn(0), 10);
        x.set(0, 0, 999);
        due("10 DAYS, from DAY 999 on", x.drawn(0), 10);
        due("nothing happened", x.told(0, 2), 0);
        due("nothing fell", x.told(0, 3), 50);
        due("no DAY passed", x.told(0, 0), 999);

        says("(no HOUSES: nothing):");
        for (int seed : seeds) {
            due("drawn(" + seed + ") of none", new ApplesFall().drawn(seed), 0);
        }

        says("BASKETS of all.");
        x = Given.houses(5);
        x.learns(0, 0);
        Given.rule(x, "99", "0", "0");
        due("all that there are", x.drawn(7), 250);

        says("IN m seeds (1 .. 20), SEED and each 1 more (an int): of these those by which that is k (0 .. 999) or "
            + "more.");
        ApplesFall v = village(3);
        for (int part = 0; part < 2; part++) {
            int p = part;
            for (int m : new int[] {MIN, -1, 0, 21, MAX}) {
                due("m " + m, v.chance(0, m, 0, p), ApplesFall.NO);
            }
            for (int k : new int[] {MIN, -1, 1000, MAX}) {
                due("k " + k, v.chance(0, 1, k, p), ApplesFall.NO);
            }
        }
        for (int seed : new int[] {MAX, MAX - 1, -1, 0, MIN}) {
            int falls = v.drawn(seed);
            due("m 1, k as many as fall", v.chance(seed, 1, falls, 0), 1);
            due("m 1, k one more", v.chance(seed, 1, falls + 1, 0), 0);
            for (int m : new int[] {1, 2, 3, 4, 19, 20}) {
                int hits = 0;
                for (int i = 0; i < m; i++) {
                    hits += v.drawn(seed + i) >= falls ? 1 : 0;
                }
                due("those of " + m, v.chance(seed, m, falls, 0) * m, v.chance(seed, m, falls, 1) * hits);
            }
        }
        due("k 0: all", v.chance(5, 20, 0, 0), 1);
        due("k 999: none", v.chance(5, 20, 999, 0), 0);
    }

    private static void image() {
        says("AN IMAGE keeps LAWS, DAY, NUMBERS, what all KNOW, APPLES, RIPE, THE RULE (HOUSES that came since go).");
        ApplesFall x = laws(1, 1);
        x.house(3, 4);
        x.house(5, 0);
        Given.read(x, Given.PLAIN);
        x.force(1);
        due("image()", x.image(), 2);
        for (int i = 1; i < 10; i++) {
            x.learns(0, i);
        }
        x.house(1, 1);
        x.house(2, 2);
        x.house(4, 3);
        x.set(0, 0, 999);
        int[] most = {0, 9, 4095, 99, 99};
        for (int h = 0; h < 5; h++) {
            for (int what = 1; what < 5; what++) {
                x.set(what, h, most[what]);
            }
        }
        Given.read(x, Given.PLAIN);
        x.force(2);
        x.sheet(3, 2, 40);
        x.feed(7);
        due("back()", x.back(), 2);
        due("LAWS", x.count(1), 1);
        due("LAW 1 went", x.laws(11), BAD);
        due("what FOLLOWS from none", x.follows(0, 1), 0);
        due("DAY", x.told(0, 0), 0);
        int[][] kept = {{0, 4, 0, 50, 0, 3}, {0, 0, 0, 50, 0, 5}};
        for (int h = 0; h < 2; h++) {
            for (int what = 1; what < 6; what++) {
                due("told(" + h + ", " + what + ")", x.told(h, what), kept[h][what]);
            }
        }
        due("THE RULE", x.count(5), 1);
        due("HOUSES that came went", x.told(2, 5), BAD);
        due("TEXTS aren't kept", x.count(3), 3);
        due("THE TAPE isn't kept", x.count(4), 1);
        due("SHEETS aren't kept", x.cell(3, 39, 1), 1);
        due("room for HOUSES", x.house(2, 0), 2);
        due("one as it comes", x.told(2, 2), 0);
        due("one as it comes", x.told(2, 3), 50);
        due("one as it comes", x.told(2, 4), 0);
    }

    // ---- Terms 3, Details

    private static void sheets() {
        says("SHEETS 0 .. 3 are rows of numbers, or missing (as all are at first):");
        for (int s = 0; s < 4; s++) {
            due("missing at first", new ApplesFall().cell(s, 0, 0), -11);
        }
        Sentences.range("sheet(sheet, 0, 1)", 0, 3, BAD, s -> new ApplesFall().sheet(s, 0, 1));
        Sentences.range("cell(sheet, 0, 0)", 0, 3, BAD, s -> new ApplesFall().cell(s, 0, 0));
        Sentences.range("copy(sheet, 0, 0, 0, 0)", 0, 3, BAD, s -> new ApplesFall().copy(s, 0, 0, 0, 0));
        Sentences.range("copy(0, 0, sheet, 0, 0)", 0, 3, BAD, s -> new ApplesFall().copy(0, 0, s, 0, 0));
        Sentences.range("houses(sheet, 0, 0, 0)", 0, 3, BAD, s -> new ApplesFall().houses(s, 0, 0, 0));
        Sentences.range("tells(sheet, 0, 0)", 0, 3, BAD, s -> Given.house(0, 0).tells(s, 0, 0));
        Sentences.range("film(sheet, 0, 0)", 0, 3, BAD, s -> Given.house(0, 0).film(s, 0, 0));

        says("of sort 0 bytes, 1 shorts, 2 ints.");
        Sentences.range("sheet(0, sort, 1)", -1, 2, BAD, sort -> new ApplesFall().sheet(0, sort, 1));
        Sentences.range("houses(0, sort, 0, 0)", 0, 2, BAD, sort -> Given.sheet(1, 4).houses(0, sort, 0, 0));
        int[] wide = {0, 256, 65536, MIN};
        for (int sort = 0; sort < 3; sort++) {
            for (int i = 0; i < wide.length; i++) {
                ApplesFall x = Given.house(0, 0);
                Given.row(x, 0, sort, wide[i] + 50);
                boolean isCut = i == 0 || sort == 0 || sort == 1 && i > 1;
                due("sort " + sort + ", " + wide[i] + " more", x.tells(0, 0, 0), isCut ? NONE : 0);
            }
        }
    }

    private static void details() {
        says("Details. A MASTER's FACT NUMBER alone is left out of ALL that follows; what follows by it stays.");
        ApplesFall x = Given.house(4, 1);
        Given.chain(x, 3);
        x.set(2, 0, 1);
        due("UNDERSTANDS", x.told(0, 7), 4 + 8);
        due("ALL that follows", x.told(0, 9), 15);
        x.day();
        due("KNOWS", x.told(0, 2), 1 + 4 + 8);

        says("What a TEXT tells is held within its bounds ahead of what the KIND makes of it, and that again.");
        due("HEBBS, -5 is 0", fall(2, 0, 0, -5), 1);
        due("HEBBS, 100 is 99, 1 more is 99", fall(2, 0, 0, 100), 99);
        due("FAMILY, 200 is 99", fall(1, 0, 0, 200), 49);
        due("DREAMER, 200 is 99", fall(3, 9, 0, 200), 58);
        due("GIRL, 60 is 120 is 99", fall(5, 0, 99, 60), 99);

        says("A DAY: what FALLS is by RIPE, APPLES, known ahead of the DAY; "
            + "what ripens by the new FACTS and the lesser APPLES.");
        x = Given.house(0, 0);
        x.learns(0, 4);
        x.learns(0, 9);
        x.set(4, 0, 20);
        Given.rule(x, "(ripe=20)+(apples=50)*2+(known=0)*4", "(ripe=20)+(apples=36)*2+(known=2)*4", "1");
        due("what FALLS", x.day(), 14);
        due("what ripens", x.told(0, 4), 27);

        says("Rounds are those that add something.");
        x = new ApplesFall();
        Given.chain(x, 10);
        due("none", x.follows(2048, 2), 0);
        due("none, of no FACTS", x.follows(0, 2), 0);
        due("none, of all", x.follows(4095, 2), 0);
        due("one", x.follows(1 << 9, 2), 1);
        due("ten", x.follows(1, 2), 10);
        due("by steps that are there", x.follows(0b10101010101, 2), 1);

        says("told(.., 8) is not bounded by APPLES.");
        x = Given.house(0, 0);
        for (int f = 0; f < 10; f++) {
            x.learns(0, f);
        }
        x.set(3, 0, 0);
        Given.rule(x, "99", "0", "1");
        due("what FALLS of no APPLES", x.told(0, 8), 990);
        due("what falls truly", x.day(), 0);

        says("DRAWN: one z for the HOUSE and the FACT, anew for each DAY.");
        for (int seed = 0; seed < 12; seed++) {
            due("drawn(" + seed + ")", village(4).drawn(seed), drawnTruly(village(4), 4, seed));
        }

        says("houses() leaves out what can't be.");
        x = Given.houses(3);
        Given.row(x, 0, 2, 6, 0, 5, 9, 0, 10, 0, 0, 1, 1);
        due("KIND 6, NUMBER 10, a sixth HOUSE", x.houses(0, 2, 0, 5), 2);
        due("what can be: KIND", x.told(3, 5), 5);
        due("what can be: NUMBER", x.told(3, 1), 9);
        due("HOUSES", x.count(0), 5);
    }
}
