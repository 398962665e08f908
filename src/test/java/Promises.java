/** Each promise of the document by hand: ordinary inputs, the edges that it names, wrong inputs. */
public final class Promises {
    private static final int MIN = Integer.MIN_VALUE, MAX = Integer.MAX_VALUE;
    private static int wrong = 0;

    private static void due(String call, long got, long want) {
        if (got != want) {
            wrong++;
            System.out.println(call + " answered " + got + ", due is " + want);
        }
    }

    /** Feeds a text and reads it; what text() answers. */
    private static int read(ApplesFall x, String text) {
        for (int i = 0; i < text.length(); i++) {
            x.feed(text.charAt(i));
        }
        return x.text();
    }

    private static void rule(ApplesFall x, String text) {
        int number = read(x, text);
        due("text of " + text, number, x.count(3) - 1);
        x.force(number);
    }

    private static void fault(String text, int place) {
        ApplesFall x = new ApplesFall();
        due("text() of " + text, read(x, text), -100 - place);
        due("count(4) behind the fault", x.count(4), 0);
        due("count(3) behind the fault", x.count(3), 1);
    }

    /** What the E comes to for FACT 3 of a house: ripe 7, number 2, day 5, known 2, apples 40; held 0 .. 99. */
    private static void comesTo(String e, int want) {
        ApplesFall x = new ApplesFall();
        x.house(0, 2);
        x.set(0, 0, 5);
        x.set(2, 0, 3);
        x.set(3, 0, 40);
        x.set(4, 0, 7);
        rule(x, "falls " + e + ";ripens 0;takes 1;");
        due(e, x.asks(0, 3, 4), want);
    }

    private static void row(ApplesFall x, int sheet, int sort, int... items) {
        x.sheet(sheet, sort, items.length);
        for (int i = 0; i < items.length; i++) {
            x.cell(sheet, i, items[i]);
        }
    }

    public static void main(String[] args) {
        newObject();
        learns();
        set();
        house();
        told();
        toldFallsByKind();
        feed();
        text();
        faults();
        expressions();
        force();
        follows();
        laws();
        tell();
        takesByKind();
        day();
        run();
        asks();
        best();
        whom();
        tells();
        tellsRefused();
        film();
        drawn();
        chance();
        image();
        count();
        sheet();
        cell();
        copy();
        houses();
        taken();
        System.out.println(wrong == 0 ? "all promises hold" : wrong + " answers are not as promised");
        if (wrong != 0) {
            System.exit(1);
        }
    }

    // Promise 1
    private static void newObject() {
        ApplesFall x = new ApplesFall();
        for (int what = 0; what < 6; what++) {
            due("new: count(" + what + ")", x.count(what), what == 3 ? 1 : 0);
        }
        due("new: DAY", x.told(0, 0), 0);
        due("new: no HOUSE", x.told(0, 1), -2);
        due("new: no LAW", x.laws(10), -2);
        due("new: no IMAGE", x.back(), -3);
        for (int s = 0; s < 4; s++) {
            due("new: SHEET " + s, x.cell(s, 0, 0), -11);
        }
        due("NONE", ApplesFall.NONE, -1);
        due("BAD", ApplesFall.BAD, -2);
        due("STATE", ApplesFall.STATE, -3);
        due("FULL", ApplesFall.FULL, -4);
        due("NO", ApplesFall.NO, -4611686018427387904L);
        // THE RULE: falls 1 + ripe < 20 ; ripens 1 ; takes 1 ;
        x.house(0, 0);
        x.set(4, 0, 18);
        due("TEXT 0 falls", x.asks(0, 0, 4), 1);
        due("TEXT 0 takes", x.asks(0, 0, 3), 1);
        due("TEXT 0 ripens", x.run(0, 1, 2), 19);
        x.set(4, 0, 19);
        due("TEXT 0 falls no more", x.asks(0, 0, 4), 0);
    }

    // Promise 2
    private static void learns() {
        ApplesFall x = new ApplesFall();
        due("learns(-1, 0)", x.learns(-1, 0), -2);
        due("learns(4096, 0)", x.learns(4096, 0), -2);
        due("learns(0, -1)", x.learns(0, -1), -2);
        due("learns(0, 12)", x.learns(0, 12), -2);
        due("learns(MIN, MAX)", x.learns(MIN, MAX), -2);
        due("learns(4095, 11)", x.learns(4095, 11), 0);
        due("learns(0, 0)", x.learns(0, 0), 1);
        due("laws(10)", x.laws(10), 4095);
        due("laws(20)", x.laws(20), 11);
        for (int i = 2; i < 10; i++) {
            due("learns as " + i, x.learns(i, i), i);
        }
        due("learns as 10", x.learns(1, 1), -4);
        due("learns BAD ahead of FULL", x.learns(1, 12), -2);
        due("count(1)", x.count(1), 10);
        due("laws(19)", x.laws(19), 9);
    }

    // Promise 3
    private static void set() {
        ApplesFall x = new ApplesFall();
        due("set DAY of nobody", x.set(0, -7, 999), 0);
        due("set DAY again", x.set(0, 99, 4), 999);
        due("set DAY 1000", x.set(0, 0, 1000), -2);
        due("set DAY -1", x.set(0, 0, -1), -2);
        due("DAY", x.told(0, 0), 4);
        due("set of no HOUSE", x.set(1, 0, 0), -2);
        x.house(0, 7);
        x.house(1, 3);
        int[] most = {999, 9, 4095, 99, 99};
        int[] first = {4, 3, 0, 50, 0};
        for (int what = 1; what < 5; what++) {
            due("set too much, what " + what, x.set(what, 1, most[what] + 1), -2);
            due("set below 0, what " + what, x.set(what, 1, -1), -2);
            due("set no HOUSE, what " + what, x.set(what, 2, 0), -2);
            due("set HOUSE -1, what " + what, x.set(what, -1, 0), -2);
            due("set most, what " + what, x.set(what, 1, most[what]), first[what]);
            due("set least, what " + what, x.set(what, 1, 0), most[what]);
            due("what it is now, what " + what, x.told(1, what), 0);
            due("the other HOUSE, what " + what, x.told(0, what), what == 1 ? 7 : first[what]);
        }
        due("set DAY of a HOUSE", x.set(0, 1, 6), 4);
        due("told DAY of a HOUSE", x.told(1, 0), 6);
        due("set what 5", x.set(5, 0, 0), -2);
        due("set what -1", x.set(-1, 0, 0), -2);
        due("set wild", x.set(MAX, MIN, MAX), -2);
    }

    // Promise 4
    private static void house() {
        ApplesFall x = new ApplesFall();
        due("house(-1, 0)", x.house(-1, 0), -2);
        due("house(6, 0)", x.house(6, 0), -2);
        due("house(0, -1)", x.house(0, -1), -2);
        due("house(0, 10)", x.house(0, 10), -2);
        for (int i = 0; i < 5; i++) {
            due("house " + i, x.house(5 - i, 9 - i), i);
        }
        for (int i = 0; i < 5; i++) {
            due("KIND of " + i, x.told(i, 5), 5 - i);
            due("NUMBER of " + i, x.told(i, 1), 9 - i);
            due("KNOWS of " + i, x.told(i, 2), 0);
            due("APPLES of " + i, x.told(i, 3), 50);
            due("RIPE of " + i, x.told(i, 4), 0);
        }
        due("house 5", x.house(0, 0), -4);
        due("house BAD ahead of FULL", x.house(0, 10), -2);
        due("count(0)", x.count(0), 5);
    }

    /** LAWS: 0 -> 1, 0 -> 2, 1 and 2 -> 3, 3 -> 4; houses of all kinds but MASTER know 0. */
    private static ApplesFall chain() {
        ApplesFall x = new ApplesFall();
        x.learns(1, 1);
        x.learns(1, 2);
        x.learns(6, 3);
        x.learns(8, 4);
        for (int kind = 0; kind < 4; kind++) {
            x.house(kind, 3);
            x.set(2, kind, 1);
        }
        x.house(5, 3);
        x.set(2, 4, 1);
        return x;
    }

    // Promise 5
    private static void told() {
        ApplesFall x = chain();
        int[] understands = {6, 2, 30, 2, 6};
        for (int h = 0; h < 5; h++) {
            due("FOLLOWS " + h, x.told(h, 6), 6);
            due("UNDERSTANDS " + h, x.told(h, 7), understands[h]);
            due("ALL " + h, x.told(h, 9), 31);
            due("MISS " + h, x.told(h, 11), 0);
        }
        due("NEVER of a HOUSE", x.told(0, 10), 4095 - 31);
        // On day 1 fact 3 alone follows: one fact is nothing to a GIRL.
        due("NEVER of a GIRL", x.told(4, 10), 4095 - 7);
        x.set(0, 0, 1);
        due("a DREAMER on an odd DAY", x.told(3, 7), 0);
        due("a FAMILY on an odd DAY", x.told(1, 7), 2);
        x.set(0, 0, 2);
        due("a DREAMER on an even DAY", x.told(3, 7), 2);
        x.set(2, 4, 7);
        due("a GIRL of one fact", x.told(4, 7), 0);
        due("told(9, 0)", x.told(9, 0), 2);
        due("told(5, 1)", x.told(5, 1), -2);
        due("told(-1, 1)", x.told(-1, 1), -2);
        due("told(0, 12)", x.told(0, 12), -2);
        due("told(0, -1)", x.told(0, -1), -2);
        due("told(MIN, MAX)", x.told(MIN, MAX), -2);
        x.set(2, 0, 31);
        due("MISS: none misses", x.told(0, 11), -1);
        due("FOLLOWS what isn't known itself", x.told(0, 6), 0);
        x.set(2, 0, 16);
        due("MISS: nothing follows", x.told(0, 11), -1);

        ApplesFall m = new ApplesFall();
        m.learns(1, 1);
        m.learns(2, 2);
        m.house(4, 1);
        m.set(2, 0, 1);
        due("a MASTER leaves out its NUMBER alone", m.told(0, 7), 4);
        due("ALL of a MASTER", m.told(0, 9), 7);
        due("NEVER of a MASTER", m.told(0, 10), 4095 - 5);
        // Law 1 misses one fact, law 0 two: the most missed, not the first.
        ApplesFall y = new ApplesFall();
        y.learns(1, 5);
        y.learns(1, 1);
        y.learns(2, 2);
        y.house(0, 0);
        y.set(2, 0, 1);
        due("MISS is the fewest", y.told(0, 11), 1);
    }

    /** RIPE 51, falls 7: HOUSE 7, FAMILY 3, HEBBS 8, DREAMER 3 + 3, MASTER 8, GIRL 14. */
    private static void toldFallsByKind() {
        int[] due = {7, 3, 8, 6, 8, 14};
        int[] dueMost = {99, 49, 99, 52, 99, 99};
        int[] dueLeast = {0, 0, 1, 3, 1, 0};
        for (int kind = 0; kind < 6; kind++) {
            ApplesFall x = new ApplesFall();
            x.house(kind, 3);
            x.set(4, 0, 51);
            x.learns(0, 0);
            x.learns(0, 1);
            rule(x, "falls 7;ripens 0;takes 1;");
            due("FALL by KIND " + kind, x.asks(0, 0, 4), due[kind]);
            int facts = kind == 1 || kind == 3 ? 1 : 2;
            due("what FALLS, KIND " + kind, x.told(0, 8), facts * due[kind]);
            x.set(3, 0, 1);
            due("what FALLS isn't bounded by APPLES, KIND " + kind, x.told(0, 8), facts * due[kind]);
            rule(x, "falls 9999;ripens 0;takes 1;");
            due("FALL at most, KIND " + kind, x.asks(0, 0, 4), dueMost[kind]);
            rule(x, "falls -5;ripens 0;takes 1;");
            due("FALL at least, KIND " + kind, x.asks(0, 0, 4), dueLeast[kind]);
        }
        ApplesFall d = new ApplesFall();
        d.house(3, 0);
        rule(d, "falls 1;ripens 0;takes 1;");
        due("FALL of a DREAMER, NUMBER 0", d.asks(0, 0, 4), 0);
        ApplesFall g = new ApplesFall();
        g.house(5, 0);
        g.set(4, 0, 50);
        rule(g, "falls 7;ripens 0;takes 1;");
        due("FALL of a GIRL, RIPE 50", g.asks(0, 0, 4), 0);
    }

    // Promise 6
    private static void feed() {
        ApplesFall x = new ApplesFall();
        due("feed(-1)", x.feed(-1), -2);
        due("feed(256)", x.feed(256), -2);
        due("feed(MIN)", x.feed(MIN), -2);
        due("feed(0)", x.feed(0), 1);
        due("feed(255)", x.feed(255), 2);
        for (int i = 3; i <= 160; i++) {
            due("feed to " + i, x.feed(32), i);
        }
        due("feed to 161", x.feed(32), -4);
        due("feed BAD ahead of FULL", x.feed(256), -2);
        due("count(4)", x.count(4), 160);
        due("text() of byte 0", x.text(), -100);
        due("feed anew", x.feed(32), 1);
    }

    // Promise 7
    private static void text() {
        ApplesFall x = new ApplesFall();
        String plain = "falls 1;ripens 1;takes 1;";
        due("no blanks", read(x, "falls1;ripens1;takes1;"), 1);
        due("blanks and new lines", read(x, "\n falls 1\n;ripens\n\n1 ; takes 1;  \n"), 2);
        due("THE TAPE is empty", x.count(4), 0);
        StringBuilder long160 = new StringBuilder(plain);
        while (long160.length() < 160) {
            long160.append(' ');
        }
        due("160 bytes", read(x, long160.toString()), 3);
        due("keys right behind numbers", read(x, "falls 1or 2and 3;ripens not 1;takes 1;"), 4);
        due("a fault between", read(x, "falls 1;ripens 1;takes ;"), -100 - 23);
        due("TEXT 5", read(x, "falls 7;ripens 5;takes 0;"), 5);
        x.house(0, 0);
        x.force(5);
        due("TEXT 5 falls", x.asks(0, 0, 4), 7);
        due("TEXT 5 takes", x.asks(0, 0, 3), 0);
        due("TEXT 5 ripens", x.run(0, 1, 2), 5);
        due("no more room", read(x, plain), -4);
        due("THE TAPE stays", x.count(4), plain.length());
        due("TEXTS", x.count(3), 6);
        due("FULL ahead of a FAULT", read(x, "?"), -4);
        due("THE TAPE stays again", x.count(4), plain.length() + 1);
    }

    // Promise 7, FAULT
    private static void faults() {
        fault("", 0);
        fault("   ", 3);
        fault("falls", 5);
        fault("falls ", 6);
        fault("ripens 1;falls 1;takes 1;", 0);
        fault("falls 1 ripens 1;takes 1;", 8);
        fault("falls 1;takes 1;ripens 1;", 8);
        fault("falls 1;ripens 1;takes 1", 24);
        fault("falls 1;ripens 1;takes 1;1", 25);
        fault("falls 1;ripens 1;takes 1; @", 26);
        fault("falls 1 2;ripens 1;takes 1;", 8);
        fault("falls x;ripens 1;takes 1;", 6);
        fault("falls facts;ripens 1;takes 1;", 6);
        fault("falls fac;ripens 1;takes 1;", 6);
        fault("falls nott;ripens 1;takes 1;", 6);
        fault("falls Fact;ripens 1;takes 1;", 6);
        fault("falls 12345;ripens 1;takes 1;", 6);
        fault("falls 1+00001;ripens 1;takes 1;", 8);
        fault("falls 1\t;ripens 1;takes 1;", 7);
        fault("falls 1\r;ripens 1;takes 1;", 7);
        fault("falls takes;ripens 1;takes 1;", 6);
        fault("falls 1<2<3;ripens 1;takes 1;", 9);
        fault("falls 1=2=3;ripens 1;takes 1;", 9);
        fault("falls 1+not 2;ripens 1;takes 1;", 8);
        fault("falls 1<not 2;ripens 1;takes 1;", 8);
        fault("falls -not 2;ripens 1;takes 1;", 7);
        fault("falls (1;ripens 1;takes 1;", 8);
        fault("falls 1);ripens 1;takes 1;", 7);
        fault("falls ();ripens 1;takes 1;", 7);
        fault("falls *1;ripens 1;takes 1;", 6);
        fault("falls +1;ripens 1;takes 1;", 6);
        fault("falls 1 or;ripens 1;takes 1;", 10);
        fault("falls 1 and or 1;ripens 1;takes 1;", 12);
        fault("falls 1;ripens 1;takes 1>2;", 24);
        fault("falls ((((((1))))));ripens 1;takes 1;", 11);
        fault("falls ------1;ripens 1;takes 1;", 11);
        fault("falls not not not not not not 1;ripens 1;takes 1;", 26);
        fault("falls not not not -(-1);ripens 1;takes 1;", 20);
        fault("falls not not not not not 1<(1);ripens 1;takes 1;", 28);
        fault("falls ((((1*-(1)))));ripens 1;takes 1;", 13);
        fault("falls not not - - - -1;ripens 1;takes 1;", 20);
        fault("falls -(not -(--1));ripens 1;takes 1;", 14);
        fault("falls -not 1;ripens 1;takes 1;", 7);
        fault("falls not - - - -;ripens 1;takes 1;", 17);
        fault("falls not not;ripens 1;takes 1;", 13);
        fault("falls not", 9);
        fault("falls --", 8);
        fault("falls -(", 8);
        fault("fact 1;ripens 1;takes 1;", 0);
        fault("falls falls;ripens 1;takes 1;", 6);
        fault("falls factz;ripens 1;takes 1;", 6);
        fault("falls afact;ripens 1;takes 1;", 6);
        fault("falls 1a;ripens 1;takes 1;", 7);
        for (int b = 0; b < 256; b++) {
            if (b != 32 && b != 10) {
                fault("falls 1;ripens 1;takes 1;" + (char) b, 25);
                fault((char) b + "falls 1;ripens 1;takes 1;", 0);
            }
            boolean begins = b >= '0' && b <= '9' || "()-".indexOf(b) >= 0 || b == 32 || b == 10;
            if (!begins) {
                fault("falls " + (char) b + " 1;ripens 1;takes 1;", 6);
            }
        }
    }

    // Promise 7, what an E comes to
    private static void expressions() {
        comesTo("fact", 3);
        comesTo("ripe", 7);
        comesTo("number", 2);
        comesTo("day", 5);
        comesTo("known", 2);
        comesTo("apples", 40);
        comesTo("0", 0);
        comesTo("0099", 99);
        comesTo("1000", 99);
        comesTo("-3", 0);
        comesTo("--3", 3);
        comesTo("-----1+9", 8);
        comesTo("10-2-3", 5);
        comesTo("10-(2-3)", 11);
        comesTo("2+3*4", 14);
        comesTo("(2+3)*4", 20);
        comesTo("2*-3+9", 3);
        comesTo("9--3", 12);
        comesTo("(3<4)+(4<3)*2+(3<3)*4", 1);
        comesTo("(3=4)+(4=4)*2", 2);
        comesTo("1+1=2", 1);
        comesTo("0-1<0", 1);
        comesTo("5 or 0", 1);
        comesTo("0 or 0", 0);
        comesTo("5 and -2", 1);
        comesTo("5 and 0", 0);
        comesTo("1 or 1 and 0", 1);
        comesTo("(1 or 1) and 0", 0);
        comesTo("0 and 0 or 1", 1);
        comesTo("not 5", 0);
        comesTo("not 0", 1);
        comesTo("not not 7", 1);
        comesTo("not 1 < 1", 1);
        comesTo("not 1 and 0", 0);
        comesTo("not 0 or 0", 1);
        comesTo("not(1 and 0)", 1);
        comesTo("(((((9)))))", 9);
        comesTo("(((((9)))))+(((((8)))))", 17);
        comesTo("-----1*-----1", 1);
        comesTo("not not not not not 0 and 1", 1);
        comesTo("not not - - -7", 1);
        comesTo("not -0 + -(not 0) * 5", 0);
        comesTo("not -(-0 + 1 - -1)", 0);
        comesTo("not(not(-5 + 5))", 0);
        comesTo("not not 3 or not not 0", 1);
        comesTo("9 - -(-(-2)) * -3", 3);
        // 2048 * 1024 * 1024 is 2 to the 31st: wraps to below 0; and once more so, to 0.
        comesTo("2048*1024*1024<0", 1);
        comesTo("2048*1024*1024*2+5", 5);
        // As deep as can be, with as much waiting as can be: each level is 1 as 0 or (1 and 0 < ..).
        String level = "0or 1and 0<0+1*(";
        comesTo(level + level + level + level + level + "0or 1and 0<0+1*1" + ")))))", 1);
    }

    // Promise 8
    private static void force() {
        ApplesFall x = new ApplesFall();
        x.house(0, 0);
        due("force(1) of one TEXT", x.force(1), -2);
        due("force(-1)", x.force(-1), -2);
        read(x, "falls 5;ripens 1;takes 1;");
        due("a TEXT isn't THE RULE yet", x.asks(0, 0, 4), 1);
        due("force(1)", x.force(1), 0);
        due("falls by it", x.asks(0, 0, 4), 5);
        due("count(5)", x.count(5), 1);
        due("force(2)", x.force(2), -2);
        due("force(MAX)", x.force(MAX), -2);
        due("force(0)", x.force(0), 1);
        due("falls by TEXT 0", x.asks(0, 0, 4), 1);
    }

    // Promise 9
    private static void follows() {
        ApplesFall x = chain();
        due("FOLLOWS from 0", x.follows(1, 0), 6);
        due("ALL from 0", x.follows(1, 1), 31);
        due("rounds from 0", x.follows(1, 2), 3);
        due("FOLLOWS from 1, 2", x.follows(6, 0), 8);
        due("FOLLOWS from 1 alone", x.follows(2, 0), 0);
        due("ALL from 1 alone", x.follows(2, 1), 2);
        due("rounds from 1 alone", x.follows(2, 2), 0);
        due("FOLLOWS from all", x.follows(4095, 0), 0);
        due("ALL from all", x.follows(4095, 1), 4095);
        due("follows(-1, 0)", x.follows(-1, 0), -2);
        due("follows(4096, 0)", x.follows(4096, 0), -2);
        due("follows(0, -1)", x.follows(0, -1), -2);
        due("follows(0, 3)", x.follows(0, 3), -2);
        ApplesFall y = new ApplesFall();
        for (int f = 0; f < 10; f++) {
            y.learns(1 << f, f + 1);
        }
        due("rounds, the most", y.follows(1, 2), 10);
        due("ALL, the longest", y.follows(1, 1), 2047);
        ApplesFall z = new ApplesFall();
        z.learns(0, 11);
        due("from no FACTS", z.follows(0, 0), 2048);
    }

    // Promise 10
    private static void laws() {
        ApplesFall x = chain();
        due("none IDLE", x.laws(0), 0);
        due("ROOTS", x.laws(1), 4095 - 30);
        due("no twos SAME", x.laws(2), 0);
        x.learns(1, 3);
        due("IDLE: law 4 says what laws 0 to 2 say", x.laws(0), 16);
        x.learns(64, 6);
        due("IDLE: law 5 tells of its own FACTS", x.laws(0), 48);
        x.learns(16, 0);
        // 0 -> 4 -> 0, so 0, 4 and 3 are each of the other's; 1 and 2 lead nowhere.
        due("twos SAME", x.laws(2), 3);
        due("FACTS of law 2", x.laws(12), 6);
        due("its FACT", x.laws(22), 3);
        due("FACTS of law 6", x.laws(16), 16);
        due("its FACT", x.laws(26), 0);
        for (int what : new int[] {MIN, -1, 3, 9, 17, 19, 27, 29, 30, MAX}) {
            due("laws(" + what + ")", x.laws(what), -2);
        }
        x.learns(1, 1);
        due("IDLE: two alike are both", x.laws(0) & 129, 129);
    }

    // Promise 11
    private static void tell() {
        ApplesFall x = chain();
        due("tell", x.tell(0, 11), 1);
        due("KNOWS", x.told(0, 2), 2049);
        due("nothing FALLS", x.told(0, 3), 50);
        due("tell again", x.tell(0, 11), -3);
        due("tell what it KNOWS", x.tell(0, 0), -3);
        due("tell(5, 0)", x.tell(5, 0), -2);
        due("tell(-1, 0)", x.tell(-1, 0), -2);
        due("tell(0, 12)", x.tell(0, 12), -2);
        due("tell(0, -1)", x.tell(0, -1), -2);
        due("tell(MAX, MIN)", x.tell(MAX, MIN), -2);
        rule(x, "falls 1;ripens 1;takes fact=7 and ripe=0 and known=1;");
        due("not taken", x.tell(1, 8), 0);
        due("not known since", x.told(1, 2), 1);
        due("taken", x.tell(1, 7), 1);
        due("known since", x.told(1, 2), 129);
    }

    // Promises 11 and 14
    private static void takesByKind() {
        // Whether it takes when takes says yes with something that follows, yes without, no.
        int[][] takes = {{1, 1, 0}, {1, 0, 0}, {1, 1, 1}, {1, 1, 0}, {1, 1, 1}, {1, 1, 0}};
        for (int kind = 0; kind < 6; kind++) {
            ApplesFall x = new ApplesFall();
            x.house(kind, 4);
            due("TAKES, nothing follows, KIND " + kind, x.asks(0, 5, 3), takes[kind][1]);
            x.learns(0, 0);
            due("TAKES, KIND " + kind, x.asks(0, 5, 3), takes[kind][0]);
            due("TAKES its NUMBER, KIND " + kind, x.asks(0, 4, 3), kind == 4 ? 0 : 1);
            rule(x, "falls 1;ripens 1;takes 0;");
            due("TAKES by no, KIND " + kind, x.asks(0, 5, 3), takes[kind][2]);
            due("tell by no, KIND " + kind, x.tell(0, 5), takes[kind][2]);
            rule(x, "falls 1;ripens 1;takes -3;");
            due("TAKES by what isn't 0, KIND " + kind, x.asks(0, 3, 3), 1);
        }
    }

    // Promise 12
    private static void day() {
        ApplesFall x = chain();
        // HOUSE two facts at 1; FAMILY 0; HEBBS four at 2; DREAMER one at 3; GIRL not ripe: 0.
        due("day()", x.day(), 2 + 8 + 3);
        int[] knows = {7, 3, 31, 3, 7};
        int[] apples = {48, 50, 42, 47, 50};
        for (int h = 0; h < 5; h++) {
            due("KNOWS behind a DAY " + h, x.told(h, 2), knows[h]);
            due("APPLES behind a DAY " + h, x.told(h, 3), apples[h]);
            due("RIPE behind a DAY " + h, x.told(h, 4), 1);
        }
        due("DAY", x.told(0, 0), 1);
        x.set(0, 0, 999);
        due("day() on 999", x.day(), -3);
        due("nothing changes", x.told(0, 2), 7);
        x.set(0, 0, 998);
        // HOUSE fact 3 at 1, DREAMER fact 2 at 3, on an even DAY.
        due("day() on 998", x.day(), 4);
        due("DAY", x.told(0, 0), 999);

        ApplesFall few = new ApplesFall();
        few.learns(0, 0);
        few.learns(0, 1);
        few.house(0, 0);
        few.set(3, 0, 1);
        due("APPLES 0 at least", few.day(), 1);
        due("APPLES", few.told(0, 3), 0);

        // Falls by RIPE, APPLES, known of ahead; ripens by the new FACTS and lesser APPLES, FACT 0.
        ApplesFall order = new ApplesFall();
        order.learns(0, 3);
        order.learns(0, 5);
        order.house(0, 0);
        order.set(0, 0, 3);
        order.set(2, 0, 2);
        order.set(3, 0, 20);
        order.set(4, 0, 10);
        rule(order, "falls fact+known+(apples=20)*2+(day=3);ripens known+(apples=4)+fact*9+(ripe=10)+(day=3);takes 1;");
        // fact 3: 3 + 1 + 2 + 1, fact 5: 5 + 1 + 2 + 1: 16 in all; then known 3, apples 4.
        due("what FALLS by what is ahead", order.day(), 16);
        due("APPLES", order.told(0, 3), 4);
        due("ripens by what is then", order.told(0, 4), 10 + 3 + 1 + 1 + 1);

        ApplesFall bounds = new ApplesFall();
        bounds.house(0, 0);
        rule(bounds, "falls 1;ripens 50;takes 1;");
        bounds.day();
        due("ripens 9 at most", bounds.told(0, 4), 9);
        bounds.set(4, 0, 95);
        bounds.day();
        due("RIPE 99 at most", bounds.told(0, 4), 99);
        rule(bounds, "falls 1;ripens -50;takes 1;");
        bounds.day();
        due("ripens -9 at least", bounds.told(0, 4), 90);
        bounds.set(4, 0, 5);
        bounds.day();
        due("RIPE 0 at least", bounds.told(0, 4), 0);
        due("day() of no HOUSES", new ApplesFall().day(), 0);
    }

    // Promise 13
    private static void run() {
        ApplesFall x = chain();
        due("run(0, 0, 0)", x.run(0, 0, 0), 1);
        due("run(0, 2, 0)", x.run(0, 2, 0), 15);
        due("run(0, 3, 0)", x.run(0, 3, 0), 31);
        due("run(0, 3, 1)", x.run(0, 3, 1), 46);
        due("run(0, 3, 2)", x.run(0, 3, 2), 3);
        due("run(3, 3, 0): days 0 and 2", x.run(3, 3, 0), 7);
        due("BASKETS of all, 1 day", x.run(0, 1, 3), 13);
        // HOUSE 4, HEBBS 8, DREAMER facts 1, 2 at 3 each.
        due("BASKETS of all, 3 days", x.run(4, 3, 3), 4 + 8 + 6);
        due("nothing happened", x.told(0, 2), 1);
        due("nothing fell", x.count(2), 250);
        due("no DAY passed", x.told(0, 0), 0);
        due("run(5, 0, 0)", x.run(5, 0, 0), -2);
        due("run(-1, 0, 0)", x.run(-1, 0, 0), -2);
        due("run(0, 41, 0)", x.run(0, 41, 0), -2);
        due("run(0, -1, 0)", x.run(0, -1, 0), -2);
        due("run(0, 0, 4)", x.run(0, 0, 4), -2);
        due("run(0, 0, -1)", x.run(0, 0, -1), -2);
        due("run(5, 1, 3)", x.run(5, 1, 3), -2);
        x.set(0, 0, 990);
        rule(x, "falls 1;ripens day=1005;takes 1;");
        due("DAY may pass 999 in thought", x.run(0, 40, 2), 1);
        ApplesFall y = new ApplesFall();
        y.learns(2, 2);
        y.house(0, 0);
        due("KNOWS nothing behind 40 DAYS", y.run(0, 40, 0), 0);
        due("NEVER anything", y.told(0, 10), 4095);
        y.set(2, 0, 2);
        due("KNOWS behind a DAY", y.run(0, 1, 0), 6);
    }

    // Promise 14
    private static void asks() {
        ApplesFall x = chain();
        due("KNOWS WHEN it KNOWS it", x.asks(0, 0, 0), 0);
        due("KNOWS WHEN, 1", x.asks(0, 1, 0), 1);
        due("KNOWS WHEN, 3", x.asks(0, 4, 0), 3);
        due("KNOWS WHEN, never", x.asks(0, 5, 0), -1);
        due("KNOWS WHEN of a FAMILY", x.asks(1, 4, 0), 4);
        due("KNOWS WHEN of a DREAMER", x.asks(3, 4, 0), 7);
        due("FEWEST: none", x.asks(0, 4, 1), 0);
        due("FEWEST: of one that it KNOWS", x.asks(0, 0, 1), 0);
        due("FEWEST: itself", x.asks(0, 9, 1), 512);
        due("how many", x.asks(0, 9, 2), 1);
        due("how many: none", x.asks(0, 4, 2), 0);
        x.set(2, 0, 4);
        due("FEWEST: the least of like ones", x.asks(0, 4, 1), 1);
        x.set(2, 0, 2);
        due("FEWEST: the least, below one that it KNOWS", x.asks(0, 2, 1), 1);
        x.set(2, 0, 16);
        due("FEWEST: fact 0 leads to 3, too", x.asks(0, 3, 1), 1);
        x.learns(128, 11);
        due("FEWEST: 7 is less than 11", x.asks(0, 11, 1), 128);
        due("TAKES what it KNOWS", x.asks(0, 4, 3), 1);
        due("FALL for what it KNOWS", x.asks(0, 4, 4), 1);
        due("asks(5, 0, 0)", x.asks(5, 0, 0), -2);
        due("asks(-1, 0, 0)", x.asks(-1, 0, 0), -2);
        due("asks(0, 12, 0)", x.asks(0, 12, 0), -2);
        due("asks(0, -1, 0)", x.asks(0, -1, 0), -2);
        due("asks(0, 0, 5)", x.asks(0, 0, 5), -2);
        due("asks(0, 0, -1)", x.asks(0, 0, -1), -2);

        // A DREAMER that understands one fact each second day: fact 10 behind 19, 21 days.
        ApplesFall y = new ApplesFall();
        for (int f = 0; f < 10; f++) {
            y.learns(1 << f, f + 1);
        }
        y.house(3, 0);
        y.set(2, 0, 1);
        due("KNOWS WHEN of a slow one", y.asks(0, 10, 0), 19);
        y.set(0, 0, 1);
        due("KNOWS WHEN of a later one", y.asks(0, 10, 0), 20);
        due("nothing happened", y.told(0, 2), 1);
    }

    // Promise 15
    private static void best() {
        ApplesFall x = chain();
        x.set(2, 0, 0);
        // Fact 0 lets 1, 2, 3, 4 fall within 3 days; 3 lets 4 fall only; none else anything.
        due("TELL", x.best(0, 3, 0), 0);
        due("BASKET", x.best(0, 3, 1), 4);
        due("TELL, 1 day", x.best(0, 1, 0), 0);
        due("BASKET, 1 day", x.best(0, 1, 1), 2);
        due("TELL, 0 days", x.best(0, 0, 0), -1);
        due("BASKET, 0 days", x.best(0, 0, 1), 0);
        due("nothing happened", x.told(0, 2), 0);
        rule(x, "falls 1;ripens 1;takes not fact=0;");
        due("TELL what it TAKES", x.best(0, 3, 0), 3);
        due("BASKET of that", x.best(0, 3, 1), 1);
        x.set(2, 0, 7);
        due("TELL: none is more than else", x.best(0, 3, 0), -1);
        due("BASKET as so", x.best(0, 3, 1), 2);
        // Facts 5 and 6 let as many fall: the first.
        ApplesFall y = new ApplesFall();
        y.learns(64, 7);
        y.learns(32, 8);
        y.house(0, 0);
        due("TELL, of like ones the first", y.best(0, 4, 0), 5);
        due("best(1, 0, 0)", y.best(1, 0, 0), -2);
        due("best(-1, 0, 0)", y.best(-1, 0, 0), -2);
        due("best(0, 41, 0)", y.best(0, 41, 0), -2);
        due("best(0, -1, 0)", y.best(0, -1, 0), -2);
        due("best(0, 0, 2)", y.best(0, 0, 2), -2);
        due("best(0, 0, -1)", y.best(0, 0, -1), -2);
        due("best(0, 40, 1)", y.best(0, 40, 1), 1);
    }

    // Promise 16
    private static void whom() {
        ApplesFall x = new ApplesFall();
        due("WHOM of no HOUSES", x.whom(0, 4, 0), -1);
        x.learns(1, 1);
        x.learns(1, 2);
        x.house(0, 0);
        x.house(0, 0);
        x.house(2, 0);
        x.house(2, 0);
        due("WHOM", x.whom(0, 1, 0), 2);
        due("BASKETS", x.whom(0, 1, 1), 4);
        x.set(2, 2, 1);
        due("WHOM doesn't KNOW it", x.whom(0, 1, 0), 3);
        due("BASKETS of all", x.whom(0, 1, 1), 8);
        x.set(2, 3, 1);
        due("WHOM, of like ones the first", x.whom(0, 1, 0), 0);
        due("BASKETS of all", x.whom(0, 1, 1), 10);
        rule(x, "falls 1;ripens 1;takes 0;");
        due("WHOM TAKES it", x.whom(0, 1, 0), -1);
        due("BASKETS as so", x.whom(0, 1, 1), 8);
        x.force(0);
        due("WHOM: nothing FALLS for 5", x.whom(5, 40, 0), -1);
        due("nothing happened", x.told(0, 2), 0);
        due("whom(12, 0, 0)", x.whom(12, 0, 0), -2);
        due("whom(-1, 0, 0)", x.whom(-1, 0, 0), -2);
        due("whom(0, 41, 0)", x.whom(0, 41, 0), -2);
        due("whom(0, -1, 0)", x.whom(0, -1, 0), -2);
        due("whom(0, 0, 2)", x.whom(0, 0, 2), -2);
        due("whom(0, 0, -1)", x.whom(0, 0, -1), -2);
    }

    // Promise 17
    private static void tells() {
        ApplesFall x = chain();
        // HOUSE 0: 48, 47, 46, 46 ..
        row(x, 0, 1, 48, 47, 46, 46);
        due("told so", x.tells(0, 0, 0), -1);
        due("KINDS", x.tells(0, 0, 1), 1);
        due("NUMBERS", x.tells(0, 0, 2), 1023);
        // falls 1 as long as RIPE is below 19: of three days, with ripe r, r + 1, r + 2.
        due("RIPE, how many", x.tells(0, 0, 3), 17);
        due("RIPE, the least", x.tells(0, 0, 4), 0);
        // Facts 5 .. 11 matter not.
        due("FACTS", x.tells(0, 0, 5), 4064);
        due("TEXTS", x.tells(0, 0, 6), 1);
        due("HOUSES", x.tells(0, 0, 7), 1);
        x.set(4, 0, 17);
        due("otherwise", x.tells(0, 0, 0), 2);
        due("RIPE, whatever it is now", x.tells(0, 0, 3), 17);
        due("RIPE of another HOUSE", x.tells(0, 2, 3), 0);
        due("RIPE of this one again", x.tells(0, 0, 3), 17);
        due("least RIPE of another HOUSE", x.tells(0, 2, 4), -1);
        due("least RIPE of this one again", x.tells(0, 0, 4), 0);
        due("HOUSES by what they are now", x.tells(0, 0, 7), 0);
        due("nothing happened", x.told(0, 4), 17);
        x.cell(0, 0, 49);
        due("the first that is otherwise", x.tells(0, 0, 0), 0);
        due("RIPE, none", x.tells(0, 0, 3), 0);
        due("RIPE, the least of none", x.tells(0, 0, 4), -1);

        // HEBBS: 42, 42 behind day 1; DREAMER with NUMBER 3: 47, 47, 44.
        row(x, 1, 2, 42, 42);
        due("of a HEBBS: KINDS", x.tells(1, 2, 1), 20 & ~16);
        row(x, 2, 0, 47, 47, 44, 44, 41);
        due("of a DREAMER", x.tells(2, 3, 0), -1);
        due("of a DREAMER: KINDS", x.tells(2, 3, 1), 8);
        due("of a DREAMER: NUMBERS", x.tells(2, 3, 2), 8);
        due("of a DREAMER: HOUSES", x.tells(2, 3, 7), 8);
        x.set(1, 3, 9);
        due("of a DREAMER: NUMBERS, whatever it is now", x.tells(2, 3, 2), 8);
        due("NUMBER stays", x.told(3, 1), 9);
        x.set(1, 3, 3);
        x.set(2, 3, 0);
        due("FACTS: did it know 0", x.tells(2, 3, 5), 1);
        x.set(2, 3, 1 + 2048);
        // One fact falls each second day, whichever it knows besides 0.
        due("FACTS: also did it not know 11", x.tells(2, 3, 5), 4094);
        due("KNOWS stays", x.told(3, 2), 2049);

        // Least ripe: a GIRL lets fall only above 50.
        ApplesFall g = new ApplesFall();
        g.learns(0, 0);
        g.learns(0, 1);
        g.house(5, 0);
        read(g, "falls 2;ripens 0;takes 1;");
        read(g, "falls 1;ripens 0;takes 1;");
        read(g, "falls 2;ripens 5;takes 0;");
        read(g, "falls 9;ripens 5;takes 0;");
        g.force(1);
        row(g, 3, 0, 42);
        due("of a GIRL: RIPE, the least", g.tells(3, 0, 4), 51);
        due("of a GIRL: RIPE, how many", g.tells(3, 0, 3), 49);
        g.set(4, 0, 60);
        due("of a GIRL: TEXTS", g.tells(3, 0, 6), 2 + 8);
        due("THE RULE stays", g.asks(0, 0, 4), 4);
        due("THE RULE stays", g.count(5), 1);
        // Twenty days are told; nothing falls behind the first.
        int[] days = new int[20];
        for (int i = 0; i < 20; i++) {
            days[i] = 42;
        }
        row(g, 3, 2, days);
        due("20 days", g.tells(3, 0, 0), -1);
        g.cell(3, 19, 41);
        due("20 days, the last is otherwise", g.tells(3, 0, 0), 19);
        g.sheet(3, 2, 0);
        due("no days: so", g.tells(3, 0, 0), -1);
        due("no days: KINDS", g.tells(3, 0, 1), 63);
        due("no days: NUMBERS", g.tells(3, 0, 2), 1023);
        due("no days: RIPE", g.tells(3, 0, 3), 100);
        due("no days: least RIPE", g.tells(3, 0, 4), 0);
        due("no days: FACTS", g.tells(3, 0, 5), 4095);
        due("no days: TEXTS", g.tells(3, 0, 6), 31);
        due("no days: HOUSES", g.tells(3, 0, 7), 1);
    }

    private static void tellsRefused() {
        ApplesFall x = chain();
        due("tells(4, 0, 0)", x.tells(4, 0, 0), -2);
        due("tells(-1, 0, 0)", x.tells(-1, 0, 0), -2);
        due("tells(0, 5, 0) of a missing one", x.tells(0, 5, 0), -2);
        due("tells(0, -1, 0)", x.tells(0, -1, 0), -2);
        due("tells(0, 0, 8) of a missing one", x.tells(0, 0, 8), -2);
        due("tells(0, 0, -1)", x.tells(0, 0, -1), -2);
        due("tells of a missing one", x.tells(0, 0, 0), -11);
        x.sheet(0, 0, 20);
        due("tells of 20", x.tells(0, 0, 0), 0);
        x.sheet(0, 0, 21);
        due("tells of 21", x.tells(0, 0, 0), -2);
        // A house whose apples ran out: bytes of 256 are 0, ints aren't.
        x.set(3, 0, 0);
        row(x, 1, 0, 256);
        due("a byte of 256", x.tells(1, 0, 0), -1);
        row(x, 1, 1, 65536);
        due("a short of 65536", x.tells(1, 0, 0), -1);
        row(x, 1, 1, 256);
        due("a short of 256", x.tells(1, 0, 0), 0);
        row(x, 1, 2, 65536);
        due("an int of 65536", x.tells(1, 0, 0), 0);
    }

    // Promise 18
    private static void film() {
        ApplesFall x = chain();
        due("film(0, 0, 3)", x.film(0, 0, 3), 3);
        due("it is so", x.tells(0, 0, 0), -1);
        row(x, 1, 0, 48, 47, 46);
        x.sheet(2, 0, 3);
        due("copy of bytes", x.copy(0, 0, 2, 0, 3), 3);
        due("copy of 4", x.copy(0, 0, 2, 0, 4), -12);
        due("it is so, copied", x.tells(2, 0, 0), -1);
        x.set(3, 0, 60);
        due("it isn't so of other APPLES", x.tells(0, 0, 0), 0);
        due("nothing happened", x.told(0, 2), 1);
        due("film(3, 0, 0)", x.film(3, 0, 0), 0);
        due("a row of none", x.cell(3, 0, 0), -12);
        due("film(3, 4, 20)", x.film(3, 4, 20), 20);
        due("a row of 20", x.cell(3, 19, 1), 1);
        due("a row of bytes", x.copy(3, 0, 0, 0, 1), 1);
        // Falls by the DAY in thought: fact 1 on day 5, fact 2 on day 6, fact 3 on day 7.
        ApplesFall d = new ApplesFall();
        d.learns(1, 1);
        d.learns(2, 2);
        d.learns(4, 3);
        d.house(0, 0);
        d.set(0, 0, 5);
        d.set(2, 0, 1);
        rule(d, "falls day;ripens 0;takes 1;");
        row(d, 0, 1, 45, 39, 32, 32);
        due("tells by DAY", d.tells(0, 0, 0), -1);
        d.film(1, 0, 4);
        d.sheet(0, 1, 0);
        due("film by DAY", d.tells(1, 0, 0), -1);
        d.set(0, 0, 6);
        due("film by another DAY", d.tells(1, 0, 0), 0);
        due("film(4, 0, 0)", x.film(4, 0, 0), -2);
        due("film(-1, 0, 0)", x.film(-1, 0, 0), -2);
        due("film(3, 5, 0)", x.film(3, 5, 0), -2);
        due("film(3, -1, 0)", x.film(3, -1, 0), -2);
        due("film(3, 0, 21)", x.film(3, 0, 21), -2);
        due("film(3, 0, -1)", x.film(3, 0, -1), -2);
        due("the row stays", x.cell(3, 19, 1), 1);
    }

    // Promise 19
    private static void drawn() {
        ApplesFall none = new ApplesFall();
        due("drawn of no HOUSES", none.drawn(5), 0);
        // Seed 0: z is 12345; 12345 >>> 9 is 24, >>> 17 is 0: FACT 0 to HOUSE 0 ahead of day 0.
        ApplesFall x = new ApplesFall();
        x.learns(1, 11);
        x.house(0, 0);
        x.set(0, 0, 5);
        rule(x, "falls (day=5)*30+1;ripens 1;takes (day=5)*(fact=0);");
        due("drawn(0)", x.drawn(0), 31);
        due("nothing happened", x.told(0, 2), 0);
        due("nothing fell", x.told(0, 3), 50);
        due("no DAY passed", x.told(0, 0), 5);
        // The second z of seed 0 is 12345 * 1103515245 + 12345, as an int -740551042: (z >>> 17) % 12.
        int z = 12345 * 1103515245 + 12345;
        int second = (z >>> 17) % 12;
        due("z is an int", z, -740551042);
        ApplesFall y = new ApplesFall();
        y.learns(1 << second, second == 11 ? 10 : 11);
        y.house(0, 0);
        rule(y, "falls 7;ripens 1;takes day=1;");
        due("drawn(0), ahead of the second day", y.drawn(0), 7);
        rule(y, "falls 7;ripens 1;takes 0;");
        due("drawn(0), nothing taken", y.drawn(0), 0);
        // Which HOUSE: the second z once more, of three.
        int who = (z >>> 9) % 3;
        for (int h = 0; h < 3; h++) {
            ApplesFall w = new ApplesFall();
            w.learns(1 << second, second == 11 ? 10 : 11);
            w.house(0, 0);
            w.house(0, 0);
            w.house(0, 0);
            rule(w, "falls 7*(number=" + (h + 1) + ");ripens 1;takes day=1;");
            for (int i = 0; i < 3; i++) {
                w.set(1, i, i + 1);
            }
            due("drawn(0), of HOUSE " + h, w.drawn(0), h == who ? 7 : 0);
        }
        // Ten days: what is understood by days alone.
        ApplesFall d = new ApplesFall();
        for (int f = 0; f < 10; f++) {
            d.learns(f == 0 ? 0 : 1 << f - 1, f);
        }
        d.house(1, 0);
        rule(d, "falls 2;ripens 1;takes 0;");
        due("drawn, ten days", d.drawn(77), 10);
        d.house(1, 0);
        due("drawn, all together", d.drawn(MIN), 20);
        // A DREAMER understands on days 0, 2, 4, 6, 8: no eleventh day.
        ApplesFall e = new ApplesFall();
        for (int f = 0; f < 10; f++) {
            e.learns(f == 0 ? 0 : 1 << f - 1, f);
        }
        e.house(3, 0);
        rule(e, "falls 2;ripens 1;takes 0;");
        due("drawn, not eleven days", e.drawn(-9), 5);
        drawnOnTheLastDay();
    }

    /** Ahead of the last day alone a FACT is taken: which, by the tenth z of each seed. */
    private static void drawnOnTheLastDay() {
        for (int seed = -20; seed < 20; seed++) {
            int z = seed;
            for (int i = 0; i < 10; i++) {
                z = z * 1103515245 + 12345;
            }
            int fact = (z >>> 17) % 12;
            int who = (z >>> 9) % 2;
            for (int h = 0; h < 2; h++) {
                ApplesFall x = new ApplesFall();
                x.learns(1 << fact, fact == 11 ? 10 : 11);
                x.house(0, h);
                x.house(0, 1 - h);
                rule(x, "falls 7*number;ripens 1;takes day=9;");
                due("drawn(" + seed + "), the last day", x.drawn(seed), h == who ? 0 : 7);
            }
        }
    }

    // Promise 20
    private static void chance() {
        ApplesFall x = new ApplesFall();
        x.learns(1, 11);
        x.learns(2, 10);
        x.house(0, 0);
        rule(x, "falls 40;ripens 1;takes day<2;");
        int hits = 0;
        for (int seed = 100; seed < 112; seed++) {
            hits += x.drawn(seed) >= 40 ? 1 : 0;
        }
        due("some, but not all", hits > 0 && hits < 12 ? 1 : 0, 1);
        due("in m seeds", x.chance(100, 12, 40, 0) * 12, x.chance(100, 12, 40, 1) * hits);
        due("always", x.chance(100, 12, 0, 0), 1);
        due("always", x.chance(100, 12, 0, 1), 1);
        due("never", x.chance(100, 12, 999, 0), 0);
        due("never", x.chance(100, 12, 999, 1), 1);
        for (int m = 1; m <= 20; m++) {
            long above = x.chance(MAX - 3, m, 40, 0);
            long below = x.chance(MAX - 3, m, 40, 1);
            int many = 0;
            for (int i = 0; i < m; i++) {
                many += x.drawn(MAX - 3 + i) >= 40 ? 1 : 0;
            }
            due("by m " + m, above * m, below * many);
            for (int d = 2; d <= m; d++) {
                due("in lowest terms, by m " + m, above % d == 0 && below % d == 0 ? 1 : 0, 0);
            }
        }
        long no = ApplesFall.NO;
        due("m 0", x.chance(0, 0, 0, 0), no);
        due("m 21", x.chance(0, 21, 0, 0), no);
        due("m -1", x.chance(0, -1, 0, 0), no);
        due("k -1", x.chance(0, 1, -1, 0), no);
        due("k 1000", x.chance(0, 1, 1000, 0), no);
        due("part -1", x.chance(0, 1, 0, -1), no);
        due("part 2", x.chance(0, 1, 0, 2), no);
        due("wild", x.chance(MIN, MIN, MAX, MAX), no);
        due("m 1, above", x.chance(100, 1, 0, 0), 1);
        due("m 1, below", x.chance(100, 1, 0, 1), 1);
        due("no HOUSES, above", new ApplesFall().chance(0, 20, 1, 0), 0);
        due("no HOUSES, below", new ApplesFall().chance(0, 20, 1, 1), 1);
    }

    // Promises 21 and 22
    private static void image() {
        ApplesFall x = chain();
        due("back() ahead of an IMAGE", x.back(), -3);
        ApplesFall y = new ApplesFall();
        due("image() of nothing", y.image(), 0);
        y.house(0, 0);
        y.learns(0, 0);
        y.set(2, 0, 5);
        y.set(3, 0, 5);
        y.set(4, 0, 5);
        due("back() to nothing", y.back(), 0);
        due("HOUSES that came go", y.count(0), 0);
        due("LAWS that came go", y.count(1), 0);
        y.house(3, 8);
        due("another HOUSE comes", y.told(0, 5), 3);
        due("with none KNOWN", y.told(0, 2), 0);
        due("with 50 APPLES", y.told(0, 3), 50);
        due("not RIPE", y.told(0, 4), 0);

        x = new ApplesFall();
        x.learns(1, 1);
        x.house(1, 4);
        x.set(0, 0, 7);
        x.set(2, 0, 1);
        x.set(3, 0, 33);
        x.set(4, 0, 44);
        read(x, "falls 5;ripens 1;takes 1;");
        x.force(1);
        x.sheet(0, 2, 3);
        due("image()", x.image(), 1);
        x.force(0);
        read(x, "falls 6;ripens 1;takes 1;");
        x.feed(65);
        x.learns(2, 2);
        x.house(2, 2);
        x.set(0, 0, 70);
        x.set(1, 0, 5);
        x.set(2, 0, 99);
        x.set(3, 0, 34);
        x.set(4, 0, 45);
        x.sheet(1, 2, 3);
        for (int again = 0; again < 2; again++) {
            due("back()", x.back(), 1);
            due("HOUSES", x.count(0), 1);
            due("LAWS", x.count(1), 1);
            due("law 0", x.laws(10), 1);
            due("law 1 went", x.laws(11), -2);
            due("DAY", x.told(0, 0), 7);
            due("NUMBER", x.told(0, 1), 4);
            due("KNOWS", x.told(0, 2), 1);
            due("APPLES", x.told(0, 3), 33);
            due("RIPE", x.told(0, 4), 44);
            due("KIND", x.told(0, 5), 1);
            due("THE RULE", x.count(5), 1);
            due("falls by it", x.asks(0, 0, 4), 2);
            due("TEXTS stay", x.count(3), 3);
            due("THE TAPE stays", x.count(4), 1);
            due("SHEETS stay", x.cell(1, 2, 0), 1);
            x.day();
            x.learns(4, 4);
            x.force(2);
        }
        due("a later image()", x.image(), 1);
        x.set(0, 0, 0);
        x.learns(1, 1);
        x.back();
        due("back() to the later one", x.told(0, 0), 8);
        due("IDLE of what LAWS there are", x.laws(0), 0);
        due("ROOTS of what LAWS there are", x.laws(1), 4095 - 2 - 16);
        due("with its LAWS", x.count(1), 2);
        due("with its RULE", x.count(5), 2);
    }

    // Promise 23
    private static void count() {
        ApplesFall x = chain();
        x.set(3, 2, 7);
        read(x, "falls 5;ripens 1;takes 1;");
        x.force(1);
        x.feed(65);
        x.feed(65);
        x.feed(65);
        int[] all = {5, 4, 207, 2, 3, 1};
        for (int what = 0; what < 6; what++) {
            due("count(" + what + ")", x.count(what), all[what]);
        }
        due("count(6)", x.count(6), -2);
        due("count(-1)", x.count(-1), -2);
        due("count(MAX)", x.count(MAX), -2);
    }

    // Promise 24
    private static void sheet() {
        ApplesFall x = new ApplesFall();
        due("sheet(4, 0, 0)", x.sheet(4, 0, 0), -2);
        due("sheet(-1, 0, 0)", x.sheet(-1, 0, 0), -2);
        due("sheet(0, 3, 0)", x.sheet(0, 3, 0), -2);
        due("sheet(0, -2, 0)", x.sheet(0, -2, 0), -2);
        due("sheet(0, 0, 41)", x.sheet(0, 0, 41), -2);
        due("sheet(0, 0, -1)", x.sheet(0, 0, -1), -14);
        due("sheet(4, 0, -1)", x.sheet(4, 0, -1), -2);
        due("sheet(0, 3, -1)", x.sheet(0, 3, -1), -2);
        due("still missing", x.cell(0, 0, 0), -11);
        due("sheet(3, 2, 40)", x.sheet(3, 2, 40), 1);
        due("the last of 40", x.cell(3, 39, 1), 1);
        due("refused", x.sheet(3, 2, MAX), -2);
        due("refused", x.sheet(3, 2, MIN), -14);
        due("it stays", x.cell(3, 39, 1), 1);
        due("sheet(3, -1, 99)", x.sheet(3, -1, 99), 1);
        due("missing", x.cell(3, 0, 0), -11);
        due("sheet(3, -1, -99)", x.sheet(3, -1, -99), 1);
        // All 0: a house without apples tells 0.
        x.house(0, 0);
        x.set(3, 0, 0);
        row(x, 0, 1, 5, 5, 5);
        due("5 is otherwise", x.tells(0, 0, 0), 0);
        x.sheet(0, 1, 3);
        due("anew all 0", x.tells(0, 0, 0), -1);
    }

    // Promise 25
    private static void cell() {
        ApplesFall x = new ApplesFall();
        due("cell(4, 0, 0)", x.cell(4, 0, 0), -2);
        due("cell(-1, 0, 0)", x.cell(-1, 0, 0), -2);
        due("cell of a missing one", x.cell(0, -1, 0), -11);
        x.sheet(0, 0, 3);
        due("cell(0, 3, 0)", x.cell(0, 3, 0), -12);
        due("cell(0, -1, 0)", x.cell(0, -1, 0), -12);
        due("cell(0, MAX, 0)", x.cell(0, MAX, 0), -12);
        due("cell(0, MIN, 0)", x.cell(0, MIN, 0), -12);
        due("cell(0, 2, 0)", x.cell(0, 2, 0), 1);
        x.house(0, 0);
        x.film(1, 0, 1);
        x.sheet(0, 0, 1);
        x.cell(0, 0, 50 - 256);
        due("lowest 8 bits", x.tells(0, 0, 0), -1);
        x.sheet(0, 1, 1);
        x.cell(0, 0, 50 - 65536);
        due("lowest 16 bits", x.tells(0, 0, 0), -1);
        x.sheet(0, 2, 1);
        x.cell(0, 0, 50);
        due("an int", x.tells(0, 0, 0), -1);
    }

    // Promise 26
    private static void copy() {
        ApplesFall x = new ApplesFall();
        x.house(0, 0);
        row(x, 0, 0, 50, 50, 7, 8);
        x.sheet(1, 0, 2);
        x.sheet(2, 1, 2);
        due("copy(4, ..)", x.copy(4, 0, 0, 0, 0), -2);
        due("copy(-1, ..)", x.copy(-1, 0, 0, 0, 0), -2);
        due("copy(.., 4, ..)", x.copy(0, 0, 4, 0, 0), -2);
        due("copy(.., -1, ..)", x.copy(3, 0, -1, 0, 0), -2);
        due("copy from a missing one", x.copy(3, -1, 0, 0, -1), -11);
        due("copy to a missing one", x.copy(0, -1, 3, 0, -1), -11);
        due("copy to an unlike one", x.copy(0, 0, 2, 0, -1), -13);
        due("n below 0", x.copy(0, 0, 1, 0, -1), -12);
        due("i below 0", x.copy(0, -1, 1, 0, 1), -12);
        due("j below 0", x.copy(0, 0, 1, -1, 1), -12);
        due("i too far", x.copy(0, 3, 1, 0, 2), -12);
        due("j too far", x.copy(0, 0, 1, 1, 2), -12);
        due("wild i", x.copy(0, MAX, 1, 0, 1), -12);
        due("wild n", x.copy(0, 1, 1, 1, MAX), -12);
        due("wild", x.copy(0, MIN, 1, MIN, MIN), -12);
        due("none, at the end", x.copy(0, 4, 1, 2, 0), 0);
        due("none, behind the end", x.copy(0, 5, 1, 0, 0), -12);
        due("nothing came", x.tells(1, 0, 0), 0);
        due("copy", x.copy(0, 0, 1, 0, 2), 2);
        due("it came", x.tells(1, 0, 0), -1);
        due("where it came from stays", x.tells(0, 0, 0), 2);
        x.sheet(1, 2, 40);
        x.sheet(2, 2, 40);
        due("all 40", x.copy(1, 0, 2, 0, 40), 40);
        due("the last of 40", x.copy(1, 39, 2, 39, 1), 1);
        due("41", x.copy(1, 0, 2, 0, 41), -12);
        // Over itself, as they were: 50, 49, 48 -> 50, 50, 49, 48, and down again.
        row(x, 0, 0, 50, 49, 48, 0);
        due("copy up over itself", x.copy(0, 0, 0, 1, 3), 3);
        x.learns(0, 5);
        x.set(3, 0, 51);
        // Behind days: 50, 50, ..: item 1 is 50, item 2 is 49.
        due("as they were, up", x.tells(0, 0, 0), 2);
        due("copy down over itself", x.copy(0, 1, 0, 0, 3), 3);
        due("as they were, down", x.tells(0, 0, 0), 1);
    }

    // Promise 27
    private static void houses() {
        ApplesFall x = new ApplesFall();
        row(x, 0, 1, 9, 5, 9, 6, 0, 4, 2, 0, 10);
        due("houses(4, ..)", x.houses(4, 1, 0, 0), -2);
        due("houses(-1, ..)", x.houses(-1, 1, 0, 0), -2);
        due("sort 3", x.houses(0, 3, 0, 0), -2);
        due("sort -1", x.houses(0, -1, 0, 0), -2);
        due("n 6", x.houses(0, 1, 0, 6), -2);
        due("n -1", x.houses(0, 1, 0, -1), -2);
        due("of another sort", x.houses(0, 0, 0, 1), -13);
        due("of another sort, outside", x.houses(0, 2, -1, 1), -13);
        due("a missing one", x.houses(1, 0, -1, 1), -11);
        due("from -1", x.houses(0, 1, -1, 1), -12);
        due("from the end", x.houses(0, 1, 9, 1), -12);
        due("from the last", x.houses(0, 1, 8, 1), -12);
        due("from MAX", x.houses(0, 1, MAX, 1), -12);
        due("from MIN", x.houses(0, 1, MIN, 5), -12);
        due("none", x.houses(0, 1, 0, 0), 0);
        due("none came", x.count(0), 0);
        due("others are left out", x.houses(0, 1, 1, 4), 2);
        due("KIND of 0", x.told(0, 5), 5);
        due("NUMBER of 0", x.told(0, 1), 9);
        due("KIND of 1", x.told(1, 5), 4);
        due("NUMBER of 1", x.told(1, 1), 2);
        due("what stood ahead came", x.houses(0, 1, 5, 3), -12);
        due("it came", x.count(0), 3);
        due("KIND of 2", x.told(2, 5), 4);
        row(x, 2, 2, 0, 1, 1, 2, 2, 3, 3, 4, 4, 5);
        due("as many as have room", x.houses(2, 2, 0, 5), 2);
        due("HOUSES", x.count(0), 5);
        due("NUMBER of 4", x.told(4, 1), 2);
        due("no room", x.houses(2, 2, 0, 5), 0);
        due("no room, outside", x.houses(2, 2, 2, 5), -12);
        ApplesFall y = new ApplesFall();
        row(y, 3, 0, 256, 257, -1, 0, 2, 12);
        due("bytes", y.houses(3, 0, 0, 3), 1);
        due("NUMBER of it", y.told(0, 1), 1);
    }

    // Promise 28
    private static void taken() {
        // Of which kinds each is.
        int[] kinds = {1, 3, 5, 11, 21, 33};
        for (int kind = 0; kind < 6; kind++) {
            ApplesFall x = new ApplesFall();
            x.house(kind, 6);
            for (int k = 0; k < 6; k++) {
                due("KIND " + kind + " taken for " + k, x.taken(0, k), (kinds[kind] & 1 << k) != 0 ? 6 : -13);
            }
            due("taken(0, 6)", x.taken(0, 6), -2);
            due("taken(0, -1)", x.taken(0, -1), -2);
            due("taken(1, 0)", x.taken(1, 0), -11);
            due("taken(-1, 0)", x.taken(-1, 0), -11);
            due("taken(MAX, 0)", x.taken(MAX, 0), -11);
            due("taken(1, 6)", x.taken(1, 6), -2);
        }
    }
}
