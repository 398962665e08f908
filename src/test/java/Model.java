import java.util.ArrayList;
import java.util.HashMap;
import java.util.List;
import java.util.Map;
import java.util.Set;
import java.util.TreeSet;
import java.util.regex.Matcher;
import java.util.regex.Pattern;

/**
 * The document once more, written as slowly and as literally as can be (sets, a tree of classes,
 * texts as trees, every experiment on a copy of the whole world), to hold ApplesFall against.
 */
final class Model {
    static final int NONE = -1, BAD = -2, STATE = -3, FULL = -4;
    static final long NO = -4611686018427387904L;

    // ---- texts

    interface Expr {
        int of(Map<String, Integer> names);
    }

    static final class Fault extends RuntimeException {
        private static final long serialVersionUID = 1;
        final int place;

        Fault(int place) {
            this.place = place;
        }
    }

    static final class Text {
        Expr falls, ripens, takes;
    }

    static final class Parser {
        private static final Pattern TOKEN = Pattern.compile("[a-z]+|[0-9]+|[();+\\-*<=]");
        private static final Set<String> NAMES =
            Set.of("fact", "ripe", "number", "day", "known", "apples");
        private static final Set<String> KEYS = Set.of("falls", "ripens", "takes", "or", "and", "not");
        private final String tape;
        private int at = 0;
        private final List<String> open = new ArrayList<>();

        Parser(String tape) {
            this.tape = tape;
        }

        Text all() {
            Text text = new Text();
            text.falls = part("falls");
            text.ripens = part("ripens");
            text.takes = part("takes");
            if (!peek().isEmpty()) {
                throw new Fault(at);
            }
            return text;
        }

        private Expr part(String key) {
            must(key);
            Expr e = e();
            must(";");
            return e;
        }

        private String peek() {
            while (at < tape.length() && (tape.charAt(at) == 32 || tape.charAt(at) == 10)) {
                at++;
            }
            if (at == tape.length()) {
                return "";
            }
            Matcher m = TOKEN.matcher(tape);
            if (!m.find(at) || m.start() != at) {
                throw new Fault(at);
            }
            String token = m.group();
            if (Character.isLetter(token.charAt(0)) && !NAMES.contains(token) && !KEYS.contains(token)) {
                throw new Fault(at);
            }
            if (Character.isDigit(token.charAt(0)) && token.length() > 4) {
                throw new Fault(at);
            }
            return token;
        }

        private void must(String wanted) {
            if (!peek().equals(wanted)) {
                throw new Fault(at);
            }
            at += wanted.length();
        }

        private boolean may(String wanted) {
            if (!peek().equals(wanted)) {
                return false;
            }
            at += wanted.length();
            return true;
        }

        private void opens(String what) {
            if (open.size() == 5) {
                throw new Fault(at);
            }
            open.add(what);
        }

        private void closes() {
            open.remove(open.size() - 1);
        }

        private Expr e() {
            Expr left = and();
            while (may("or")) {
                Expr a = left;
                Expr b = and();
                left = n -> a.of(n) != 0 | b.of(n) != 0 ? 1 : 0;
            }
            return left;
        }

        private Expr and() {
            Expr left = not();
            while (may("and")) {
                Expr a = left;
                Expr b = not();
                left = n -> a.of(n) != 0 & b.of(n) != 0 ? 1 : 0;
            }
            return left;
        }

        private Expr not() {
            if (peek().equals("not")) {
                opens("not");
                must("not");
                Expr a = not();
                closes();
                return n -> a.of(n) == 0 ? 1 : 0;
            }
            Expr a = sum();
            if (may("<")) {
                Expr b = sum();
                return n -> a.of(n) < b.of(n) ? 1 : 0;
            }
            if (may("=")) {
                Expr b = sum();
                return n -> a.of(n) == b.of(n) ? 1 : 0;
            }
            return a;
        }

        private Expr sum() {
            Expr left = term();
            while (true) {
                Expr a = left;
                if (may("+")) {
                    Expr b = term();
                    left = n -> a.of(n) + b.of(n);
                } else if (may("-")) {
                    Expr b = term();
                    left = n -> a.of(n) - b.of(n);
                } else {
                    return left;
                }
            }
        }

        private Expr term() {
            Expr left = one();
            while (may("*")) {
                Expr a = left;
                Expr b = one();
                left = n -> a.of(n) * b.of(n);
            }
            return left;
        }

        private Expr one() {
            String token = peek();
            if (token.equals("-")) {
                opens("-");
                must("-");
                Expr a = one();
                closes();
                return n -> -a.of(n);
            }
            if (token.equals("(")) {
                opens("(");
                must("(");
                Expr a = e();
                must(")");
                closes();
                return a;
            }
            if (NAMES.contains(token)) {
                must(token);
                return n -> n.get(token);
            }
            if (!token.isEmpty() && Character.isDigit(token.charAt(0))) {
                must(token);
                int v = Integer.parseInt(token);
                return n -> v;
            }
            throw new Fault(at);
        }
    }

    // ---- the world

    static final class Law {
        final Set<Integer> from;
        final int fact;

        Law(Set<Integer> from, int fact) {
            this.from = from;
            this.fact = fact;
        }
    }

    static Set<Integer> setOf(int bits) {
        Set<Integer> set = new TreeSet<>();
        for (int f = 0; f < 12; f++) {
            if ((bits & 1 << f) != 0) {
                set.add(f);
            }
        }
        return set;
    }

    static int bitsOf(Set<Integer> set) {
        int bits = 0;
        for (int f : set) {
            bits += 1 << f;
        }
        return bits;
    }

    static int bound(int v, int least, int most) {
        return v < least ? least : v > most ? most : v;
    }

    static Set<Integer> follows(List<Law> laws, Set<Integer> set) {
        Set<Integer> found = new TreeSet<>();
        for (Law law : laws) {
            if (set.containsAll(law.from)) {
                found.add(law.fact);
            }
        }
        found.removeAll(set);
        return found;
    }

    static Set<Integer> all(List<Law> laws, Set<Integer> set) {
        Set<Integer> all = new TreeSet<>(set);
        while (all.addAll(follows(laws, all))) {
            continue;
        }
        return all;
    }

    static class House {
        int number, apples = 50, ripe = 0;
        Set<Integer> knows = new TreeSet<>();

        Set<Integer> understands(World w) {
            return follows(w.laws, knows);
        }

        int falls(int v) {
            return v;
        }

        boolean takes(World w, int fact, boolean yes) {
            return yes;
        }
    }

    static class Family extends House {
        @Override
        Set<Integer> understands(World w) {
            TreeSet<Integer> near = new TreeSet<>(follows(w.laws, knows));
            return near.isEmpty() ? near : new TreeSet<>(Set.of(near.first()));
        }

        @Override
        int falls(int v) {
            return super.falls(v) / 2;
        }

        @Override
        boolean takes(World w, int fact, boolean yes) {
            return yes && !follows(w.laws, knows).isEmpty();
        }
    }

    static class Hebbs extends House {
        @Override
        Set<Integer> understands(World w) {
            Set<Integer> all = all(w.laws, knows);
            all.removeAll(knows);
            return all;
        }

        @Override
        int falls(int v) {
            return super.falls(v) + 1;
        }

        @Override
        boolean takes(World w, int fact, boolean yes) {
            return true;
        }
    }

    static final class Dreamer extends Family {
        @Override
        Set<Integer> understands(World w) {
            return w.day % 2 == 1 ? new TreeSet<>() : super.understands(w);
        }

        @Override
        int falls(int v) {
            return super.falls(v) + number;
        }

        @Override
        boolean takes(World w, int fact, boolean yes) {
            return yes;
        }
    }

    static final class Master extends Hebbs {
        @Override
        Set<Integer> understands(World w) {
            Set<Integer> all = super.understands(w);
            all.remove(number);
            return all;
        }

        @Override
        boolean takes(World w, int fact, boolean yes) {
            return fact != number;
        }
    }

    static final class Girl extends House {
        @Override
        Set<Integer> understands(World w) {
            Set<Integer> near = super.understands(w);
            return near.size() >= 2 ? near : new TreeSet<>();
        }

        @Override
        int falls(int v) {
            return ripe > 50 ? 2 * super.falls(v) : 0;
        }
    }

    static House make(int kind) {
        switch (kind) {
            case 0:
                return new House();
            case 1:
                return new Family();
            case 2:
                return new Hebbs();
            case 3:
                return new Dreamer();
            case 4:
                return new Master();
            default:
                return new Girl();
        }
    }

    static Class<?> classOf(int kind) {
        return make(kind).getClass();
    }

    static int kindOf(House h) {
        for (int k = 0; k < 6; k++) {
            if (classOf(k) == h.getClass()) {
                return k;
            }
        }
        throw new IllegalStateException();
    }

    static House copyAs(House h, int kind) {
        House c = make(kind);
        c.number = h.number;
        c.apples = h.apples;
        c.ripe = h.ripe;
        c.knows = new TreeSet<>(h.knows);
        return c;
    }

    static final class World {
        List<Law> laws = new ArrayList<>();
        List<House> houses = new ArrayList<>();
        int day = 0;
        int rule = 0;
        List<Text> texts;

        World copy() {
            World w = new World();
            w.laws = new ArrayList<>(laws);
            for (House h : houses) {
                w.houses.add(copyAs(h, kindOf(h)));
            }
            w.day = day;
            w.rule = rule;
            w.texts = texts;
            return w;
        }

        World after(int n) {
            World w = copy();
            for (int i = 0; i < n; i++) {
                w.pass();
            }
            return w;
        }

        Map<String, Integer> names(House h, int fact) {
            Map<String, Integer> names = new HashMap<>();
            names.put("fact", fact);
            names.put("ripe", h.ripe);
            names.put("number", h.number);
            names.put("day", day);
            names.put("known", h.knows.size());
            names.put("apples", h.apples);
            return names;
        }

        int fall(House h, int fact) {
            int v = bound(texts.get(rule).falls.of(names(h, fact)), 0, 99);
            return bound(h.falls(v), 0, 99);
        }

        int fallAll(House h) {
            int sum = 0;
            for (int f : h.understands(this)) {
                sum += fall(h, f);
            }
            return sum;
        }

        boolean takes(House h, int fact) {
            return h.takes(this, fact, texts.get(rule).takes.of(names(h, fact)) != 0);
        }

        void tell(House h, int fact) {
            if (!h.knows.contains(fact) && takes(h, fact)) {
                h.knows.add(fact);
            }
        }

        void pass() {
            for (House h : houses) {
                Set<Integer> new1 = h.understands(this);
                int fallen = fallAll(h);
                h.knows.addAll(new1);
                h.apples = Math.max(0, h.apples - fallen);
                int more = bound(texts.get(rule).ripens.of(names(h, 0)), -9, 9);
                h.ripe = bound(h.ripe + more, 0, 99);
            }
            day++;
        }

        int apples() {
            int sum = 0;
            for (House h : houses) {
                sum += h.apples;
            }
            return sum;
        }
    }

    World now = new World();
    World image = null;
    List<Text> texts = new ArrayList<>();
    StringBuilder tape = new StringBuilder();
    Object[] sheets = new Object[4];

    Model() {
        texts.add(new Parser("falls 1 + ripe < 20 ; ripens 1 ; takes 1 ;").all());
        now.texts = texts;
    }

    private House at(int i) {
        return i < 0 || i >= now.houses.size() ? null : now.houses.get(i);
    }

    private static boolean in(int v, int least, int most) {
        return v >= least && v <= most;
    }

    int learns(int from, int fact) {
        if (!in(from, 0, 4095) || !in(fact, 0, 11)) {
            return BAD;
        }
        if (now.laws.size() == 10) {
            return FULL;
        }
        now.laws.add(new Law(setOf(from), fact));
        return now.laws.size() - 1;
    }

    int set(int what, int of, int v) {
        int[] most = {999, 9, 4095, 99, 99};
        if (!in(what, 0, 4) || what > 0 && at(of) == null || !in(v, 0, most[what])) {
            return BAD;
        }
        int was = told(of, what);
        House h = at(of);
        if (what == 0) {
            now.day = v;
        } else if (what == 1) {
            h.number = v;
        } else if (what == 2) {
            h.knows = setOf(v);
        } else if (what == 3) {
            h.apples = v;
        } else {
            h.ripe = v;
        }
        return was;
    }

    int house(int kind, int number) {
        if (!in(kind, 0, 5) || !in(number, 0, 9)) {
            return BAD;
        }
        if (now.houses.size() == 5) {
            return FULL;
        }
        House h = make(kind);
        h.number = number;
        now.houses.add(h);
        return now.houses.size() - 1;
    }

    int told(int of, int what) {
        if (what == 0) {
            return now.day;
        }
        House h = at(of);
        if (h == null || !in(what, 0, 11)) {
            return BAD;
        }
        switch (what) {
            case 1:
                return h.number;
            case 2:
                return bitsOf(h.knows);
            case 3:
                return h.apples;
            case 4:
                return h.ripe;
            case 5:
                return kindOf(h);
            case 6:
                return bitsOf(follows(now.laws, h.knows));
            case 7:
                return bitsOf(h.understands(now));
            case 8:
                return now.fallAll(h);
            case 9:
                return bitsOf(all(now.laws, h.knows));
            case 10:
                return 4095 - bitsOf(now.after(40).houses.get(of).knows);
            default:
                return miss(h);
        }
    }

    private int miss(House h) {
        int best = all(now.laws, h.knows).size();
        int which = NONE;
        for (int i = 0; i < now.laws.size(); i++) {
            List<Law> others = new ArrayList<>(now.laws);
            others.remove(i);
            if (all(others, h.knows).size() < best) {
                best = all(others, h.knows).size();
                which = i;
            }
        }
        return which;
    }

    int feed(int letter) {
        if (!in(letter, 0, 255)) {
            return BAD;
        }
        if (tape.length() == 160) {
            return FULL;
        }
        tape.append((char) letter);
        return tape.length();
    }

    int text() {
        if (texts.size() == 6) {
            return FULL;
        }
        String t = tape.toString();
        tape.setLength(0);
        try {
            texts.add(new Parser(t).all());
            return texts.size() - 1;
        } catch (Fault f) {
            return -100 - f.place;
        }
    }

    int force(int text) {
        if (!in(text, 0, texts.size() - 1)) {
            return BAD;
        }
        int was = now.rule;
        now.rule = text;
        return was;
    }

    int follows(int set, int what) {
        if (!in(set, 0, 4095) || !in(what, 0, 2)) {
            return BAD;
        }
        Set<Integer> s = setOf(set);
        if (what == 0) {
            return bitsOf(follows(now.laws, s));
        }
        if (what == 1) {
            return bitsOf(all(now.laws, s));
        }
        int rounds = 0;
        while (s.addAll(follows(now.laws, s))) {
            rounds++;
        }
        return rounds;
    }

    int laws(int what) {
        int bits = 0;
        if (what == 0) {
            for (int i = 0; i < now.laws.size(); i++) {
                List<Law> others = new ArrayList<>(now.laws);
                Law law = others.remove(i);
                if (all(others, law.from).contains(law.fact)) {
                    bits += 1 << i;
                }
            }
            return bits;
        }
        if (what == 1) {
            Set<Integer> roots = setOf(4095);
            for (Law law : now.laws) {
                roots.remove(law.fact);
            }
            return bitsOf(roots);
        }
        if (what == 2) {
            int twos = 0;
            for (int a = 0; a < 12; a++) {
                for (int b = a + 1; b < 12; b++) {
                    if (all(now.laws, Set.of(a)).contains(b) && all(now.laws, Set.of(b)).contains(a)) {
                        twos++;
                    }
                }
            }
            return twos;
        }
        if (in(what, 10, 9 + now.laws.size())) {
            return bitsOf(now.laws.get(what - 10).from);
        }
        return in(what, 20, 19 + now.laws.size()) ? now.laws.get(what - 20).fact : BAD;
    }

    int tell(int house, int fact) {
        House h = at(house);
        if (h == null || !in(fact, 0, 11)) {
            return BAD;
        }
        if (h.knows.contains(fact)) {
            return STATE;
        }
        now.tell(h, fact);
        return h.knows.contains(fact) ? 1 : 0;
    }

    int day() {
        if (now.day == 999) {
            return STATE;
        }
        int was = now.apples();
        now.pass();
        return was - now.apples();
    }

    int run(int house, int n, int what) {
        if (at(house) == null || !in(n, 0, 40) || !in(what, 0, 3)) {
            return BAD;
        }
        World w = now.after(n);
        House h = w.houses.get(house);
        return what == 0 ? bitsOf(h.knows) : what == 1 ? h.apples : what == 2 ? h.ripe : now.apples() - w.apples();
    }

    int asks(int house, int fact, int what) {
        House h = at(house);
        if (h == null || !in(fact, 0, 11) || !in(what, 0, 4)) {
            return BAD;
        }
        if (what == 0) {
            for (int n = 0; n <= 40; n++) {
                if (now.after(n).houses.get(house).knows.contains(fact)) {
                    return n;
                }
            }
            return NONE;
        }
        if (what == 3) {
            return now.takes(h, fact) ? 1 : 0;
        }
        if (what == 4) {
            return now.fall(h, fact);
        }
        int knows = bitsOf(h.knows);
        int best = -1;
        for (int set = 0; set < 4096; set++) {
            if ((set & knows) == 0 && all(now.laws, setOf(knows | set)).contains(fact)
                && (best < 0 || Integer.bitCount(set) < Integer.bitCount(best))) {
                best = set;
            }
        }
        return what == 1 ? best : Integer.bitCount(best);
    }

    int best(int house, int n, int what) {
        House h = at(house);
        if (h == null || !in(n, 0, 40) || !in(what, 0, 1)) {
            return BAD;
        }
        int most = h.apples - now.after(n).houses.get(house).apples;
        int which = NONE;
        for (int f = 0; f < 12; f++) {
            if (h.knows.contains(f) || !now.takes(h, f)) {
                continue;
            }
            World w = now.copy();
            w.houses.get(house).knows.add(f);
            int basket = h.apples - w.after(n).houses.get(house).apples;
            if (basket > most) {
                most = basket;
                which = f;
            }
        }
        return what == 0 ? which : most;
    }

    int whom(int fact, int n, int what) {
        if (!in(fact, 0, 11) || !in(n, 0, 40) || !in(what, 0, 1)) {
            return BAD;
        }
        int most = now.apples() - now.after(n).apples();
        int which = NONE;
        for (int i = 0; i < now.houses.size(); i++) {
            House h = at(i);
            if (h.knows.contains(fact) || !now.takes(h, fact)) {
                continue;
            }
            World w = now.copy();
            w.houses.get(i).knows.add(fact);
            int baskets = now.apples() - w.after(n).apples();
            if (baskets > most) {
                most = baskets;
                which = i;
            }
        }
        return what == 0 ? which : most;
    }

    private int item(int sheet, int i) {
        Object s = sheets[sheet];
        if (s instanceof byte[]) {
            return ((byte[]) s)[i];
        }
        if (s instanceof short[]) {
            return ((short[]) s)[i];
        }
        return ((int[]) s)[i];
    }

    private static int length(Object s) {
        return java.lang.reflect.Array.getLength(s);
    }

    private int firstOther(int sheet, World w, int house) {
        World then = w.copy();
        for (int i = 0; i < length(sheets[sheet]); i++) {
            then.pass();
            if (then.houses.get(house).apples != item(sheet, i)) {
                return i;
            }
        }
        return NONE;
    }

    int tells(int sheet, int house, int what) {
        if (!in(sheet, 0, 3) || at(house) == null || !in(what, 0, 7)) {
            return BAD;
        }
        if (sheets[sheet] == null) {
            return -11;
        }
        if (length(sheets[sheet]) > 20) {
            return BAD;
        }
        if (what == 0) {
            return firstOther(sheet, now, house);
        }
        int[] many = {0, 6, 10, 100, 100, 12, texts.size(), now.houses.size()};
        List<Integer> fit = new ArrayList<>();
        for (int v = 0; v < many[what]; v++) {
            World w = now.copy();
            House h = w.houses.get(house);
            if (what == 1) {
                w.houses.set(house, copyAs(h, v));
            } else if (what == 2) {
                h.number = v;
            } else if (what == 3 || what == 4) {
                h.ripe = v;
            } else if (what == 5) {
                if (!h.knows.remove(v)) {
                    h.knows.add(v);
                }
            } else if (what == 6) {
                w.rule = v;
            }
            if (firstOther(sheet, w, what == 7 ? v : house) == NONE) {
                fit.add(v);
            }
        }
        if (what == 3) {
            return fit.size();
        }
        if (what == 4) {
            return fit.isEmpty() ? NONE : fit.get(0);
        }
        int bits = 0;
        for (int v : fit) {
            bits += 1 << v;
        }
        return bits;
    }

    int film(int sheet, int house, int n) {
        if (!in(sheet, 0, 3) || at(house) == null || !in(n, 0, 20)) {
            return BAD;
        }
        byte[] row = new byte[n];
        for (int i = 0; i < n; i++) {
            row[i] = (byte) now.after(i + 1).houses.get(house).apples;
        }
        sheets[sheet] = row;
        return n;
    }

    int drawn(int seed) {
        World w = now.copy();
        if (w.houses.isEmpty()) {
            return 0;
        }
        int z = seed;
        for (int d = 0; d < 10; d++) {
            z = z * 1103515245 + 12345;
            w.tell(w.houses.get((z >>> 9) % w.houses.size()), (z >>> 17) % 12);
            w.pass();
        }
        return now.apples() - w.apples();
    }

    long chance(int seed, int m, int k, int part) {
        if (!in(m, 1, 20) || !in(k, 0, 999) || !in(part, 0, 1)) {
            return NO;
        }
        int hits = 0;
        for (int i = 0; i < m; i++) {
            hits += drawn(seed + i) >= k ? 1 : 0;
        }
        int g = java.math.BigInteger.valueOf(hits).gcd(java.math.BigInteger.valueOf(m)).intValue();
        return part == 0 ? hits / g : m / g;
    }

    int image() {
        image = now.copy();
        return now.houses.size();
    }

    int back() {
        if (image == null) {
            return STATE;
        }
        now = image.copy();
        return now.houses.size();
    }

    int count(int what) {
        int[] all = {now.houses.size(), now.laws.size(), now.apples(), texts.size(), tape.length(), now.rule};
        return in(what, 0, 5) ? all[what] : BAD;
    }

    int sheet(int sheet, int sort, int n) {
        if (!in(sheet, 0, 3) || !in(sort, -1, 2) || sort >= 0 && n > 40) {
            return BAD;
        }
        if (sort >= 0 && n < 0) {
            return -14;
        }
        sheets[sheet] = sort == -1 ? null : sort == 0 ? new byte[n] : sort == 1 ? new short[n] : new int[n];
        return 1;
    }

    int cell(int sheet, int i, int v) {
        if (!in(sheet, 0, 3)) {
            return BAD;
        }
        Object s = sheets[sheet];
        if (s == null) {
            return -11;
        }
        if (!in(i, 0, length(s) - 1)) {
            return -12;
        }
        if (s instanceof byte[]) {
            ((byte[]) s)[i] = (byte) v;
        } else if (s instanceof short[]) {
            ((short[]) s)[i] = (short) v;
        } else {
            ((int[]) s)[i] = v;
        }
        return 1;
    }

    @SuppressWarnings("SuspiciousSystemArraycopy")
    int copy(int sheet, int i, int other, int j, int n) {
        if (!in(sheet, 0, 3) || !in(other, 0, 3)) {
            return BAD;
        }
        try {
            System.arraycopy(sheets[sheet], i, sheets[other], j, n);
            return n;
        } catch (NullPointerException e) {
            return -11;
        } catch (ArrayStoreException e) {
            return -13;
        } catch (IndexOutOfBoundsException e) {
            return -12;
        }
    }

    int houses(int sheet, int sort, int from, int n) {
        if (!in(sheet, 0, 3) || !in(sort, 0, 2) || !in(n, 0, 5)) {
            return BAD;
        }
        Class<?>[] sorts = {byte[].class, short[].class, int[].class};
        if (sheets[sheet] != null && !sorts[sort].isInstance(sheets[sheet])) {
            return -13;
        }
        if (sheets[sheet] == null) {
            return -11;
        }
        int came = 0;
        for (long at = from; at < from + 2L * n; at += 2) {
            if (at < 0 || at + 1 >= length(sheets[sheet])) {
                return -12;
            }
            came += house(item(sheet, (int) at), item(sheet, (int) at + 1)) >= 0 ? 1 : 0;
        }
        return came;
    }

    int taken(int house, int k) {
        if (!in(k, 0, 5)) {
            return BAD;
        }
        House h = at(house);
        if (h == null) {
            return -11;
        }
        return classOf(k).isInstance(h) ? h.number : -13;
    }
}
