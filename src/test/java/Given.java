import java.util.ArrayList;
import java.util.List;

/** Objects that tests begin from, and all that can be seen of one. */
final class Given {
    static final String PLAIN = "falls1;ripens1;takes1;";

    private Given() {
    }

    /** Feeds a text and reads it; what text() answers. */
    static int read(ApplesFall x, String text) {
        for (int i = 0; i < text.length(); i++) {
            x.feed(text.charAt(i));
        }
        return x.text();
    }

    /** The answer of text() on a new object. */
    static int reads(String text) {
        return read(new ApplesFall(), text);
    }

    static void rule(ApplesFall x, String falls, String ripens, String takes) {
        x.force(read(x, "falls " + falls + ";ripens " + ripens + ";takes " + takes + ";"));
    }

    static ApplesFall house(int kind, int number) {
        ApplesFall x = new ApplesFall();
        x.house(kind, number);
        return x;
    }

    static ApplesFall houses(int many) {
        ApplesFall x = new ApplesFall();
        for (int i = 0; i < many; i++) {
            x.house(0, 0);
        }
        return x;
    }

    /** Laws f -> f + 1 for so many facts from 0 on. */
    static void chain(ApplesFall x, int many) {
        for (int f = 0; f < many; f++) {
            x.learns(1 << f, f + 1);
        }
    }

    static void row(ApplesFall x, int sheet, int sort, int... items) {
        x.sheet(sheet, sort, items.length);
        for (int i = 0; i < items.length; i++) {
            x.cell(sheet, i, items[i]);
        }
    }

    /** A new object whose SHEET 0 has n items of a sort. */
    static ApplesFall sheet(int sort, int n) {
        ApplesFall x = new ApplesFall();
        x.sheet(0, sort, n);
        return x;
    }

    /** Whether, for a HOUSE as one comes and FACT 0, this E is true. */
    static int isTrue(String e) {
        ApplesFall x = house(0, 0);
        rule(x, "0", "0", e);
        return x.asks(0, 0, 3);
    }

    /** What FALLS for FACT 0 of a HOUSE as one comes, when falls says this E: held 0 .. 99. */
    static int falls(String e) {
        ApplesFall x = house(0, 0);
        rule(x, e, "0", "1");
        return x.asks(0, 0, 4);
    }

    /** Laws, houses, texts and the tape are full, it is DAY 999, there is an image of less. */
    static ApplesFall full() {
        ApplesFall x = new ApplesFall();
        x.learns(1, 1);
        x.house(0, 3);
        x.set(2, 0, 1);
        x.set(0, 0, 7);
        x.image();
        for (int f = 1; f < 10; f++) {
            x.learns(1 << f, f + 1);
        }
        for (int kind = 1; kind < 5; kind++) {
            x.house(kind, 2 * kind);
            x.set(2, kind, 3);
            x.set(3, kind, 60 + kind);
            x.set(4, kind, 50 + kind);
        }
        for (int i = 1; i < 6; i++) {
            read(x, PLAIN);
        }
        x.force(4);
        x.set(0, 0, 999);
        sheets(x);
        read(x, "falls 3;ripens 2;takes 1;");
        while (x.feed(32) > 0) {
            continue;
        }
        return x;
    }

    /** Some of all; no image. */
    static ApplesFall half() {
        ApplesFall x = new ApplesFall();
        chain(x, 9);
        x.house(0, 3);
        x.set(2, 0, 1);
        x.house(4, 8);
        x.set(2, 1, 5);
        x.set(3, 1, 70);
        x.set(4, 1, 60);
        read(x, PLAIN);
        x.force(1);
        x.set(0, 0, 12);
        sheets(x);
        for (char c : "falls 3;ripens 2;takes 1".toCharArray()) {
            x.feed(c);
        }
        return x;
    }

    /** 0: bytes, 20 days of HOUSE 0; 1: ten of them as shorts; 2: 21 ints; 3: missing. */
    private static void sheets(ApplesFall x) {
        x.film(0, 0, 20);
        row(x, 1, 1, 49, 48, 47, 46, 45, 44, 43, 42, 41, 40);
        x.sheet(2, 2, 21);
    }

    /** All that calls can tell of it. */
    static List<Long> seen(ApplesFall x) {
        List<Long> seen = new ArrayList<>();
        plainly(x, seen);
        for (int what = 0; what < 30; what++) {
            seen.add((long) x.laws(what));
        }
        for (int s = 0; s < 4; s++) {
            seen.add((long) x.tells(s, 0, 0));
            for (int sort = 0; sort < 3; sort++) {
                seen.add((long) x.houses(s, sort, 0, 0));
            }
            for (int i : new int[] {9, 10, 19, 20, 39}) {
                seen.add((long) x.cell(s, i, 0));
            }
        }
        seen.add((long) x.feed(';'));
        seen.add((long) x.text());
        seen.add((long) x.force(x.count(3) - 1));
        seen.add((long) x.asks(0, 0, 4));
        seen.add((long) x.run(0, 1, 2));
        seen.add((long) x.back());
        plainly(x, seen);
        return seen;
    }

    private static void plainly(ApplesFall x, List<Long> seen) {
        for (int what = 0; what < 6; what++) {
            seen.add((long) x.count(what));
        }
        seen.add((long) x.told(0, 0));
        for (int h = 0; h < 5; h++) {
            for (int what = 1; what < 6; what++) {
                seen.add((long) x.told(h, what));
            }
        }
    }
}
