/** Houses, what they know, what follows from it, and the apples that fall for it. */
public final class ApplesFall {
    public static final int NONE = -1, BAD = -2, STATE = -3, FULL = -4;
    public static final long NO = -4611686018427387904L;

    private static final int NOTHING = -11, OUTSIDE = -12, UNLIKE = -13, BELOW = -14;
    private static final int FACTS = 12, ALL_FACTS = 4095;
    private static final int LAWS = 10, HOUSES = 5, TEXTS = 6, TAPE = 160;
    private static final int LAST_DAY = 999, THOUGHT_DAYS = 40, TOLD_DAYS = 20, DRAWN_DAYS = 10;
    private static final int KINDS = 6, NUMBERS = 10, RIPES = 100, MOST = 99;
    private static final int HOUSE = 0, FAMILY = 1, HEBBS = 2, DREAMER = 3, MASTER = 4, GIRL = 5;
    private static final int FALLS = 0, RIPENS = 1, TAKES = 2;
    private static final int SHEETS = 4, SORTS = 3, ITEMS = 40, MISSING = -1;
    private static final String FIRST_TEXT = "falls 1 + ripe < 20 ; ripens 1 ; takes 1 ;";

    private final Lore lore = new Lore();
    private final Orchard now = new Orchard();
    private final Orchard kept = new Orchard();
    private final Orchard thought = new Orchard();
    private final Tree changed = new Tree();
    private final Tree later = new Tree();
    private final Rule[] rules = new Rule[TEXTS];
    private final Row[] rows = new Row[SHEETS];
    private final Reader reader;
    private final Ways ways;
    private int texts = 1;
    private int keptLaws = 0;
    private boolean hasImage = false;

    public ApplesFall() {
        Rule first = new Rule();
        rules[0] = first;
        for (int i = 1; i < rules.length; i++) {
            rules[i] = new Rule();
        }
        for (int i = 0; i < rows.length; i++) {
            rows[i] = new Row();
        }
        reader = new Reader(first);
        for (int i = 0; i < FIRST_TEXT.length(); i++) {
            reader.put(FIRST_TEXT.charAt(i));
        }
        reader.readInto(first);
        reader.clear();
        ways = new Ways(lore, first);
    }

    // ---- laws, houses

    public int learns(int from, int fact) {
        if (!isSet(from) || !isFact(fact)) {
            return BAD;
        }
        return lore.add(from, fact);
    }

    public int set(int what, int of, int v) {
        Tree tree = now.at(of);
        if (what != 0 && tree == null || v < 0 || v > greatest(what)) {
            return BAD;
        }
        int was = tellOf(tree, what);
        if (what == 0) {
            now.day = v;
        } else if (tree != null) {
            tree.change(what, v);
        }
        return was;
    }

    public int house(int kind, int number) {
        if (!isHouse(kind, number)) {
            return BAD;
        }
        return now.add(kind, number);
    }

    public int told(int of, int what) {
        Tree tree = now.at(of);
        if (what == 0) {
            return now.day;
        }
        if (tree == null || what < 0 || what > 11) {
            return BAD;
        }
        switch (what) {
            case 5:
                return tree.kind;
            case 6:
                return lore.next(tree.knows, NONE);
            case 7:
                return ways.understands(tree, now.day);
            case 8:
                return ways.fallen(tree, ways.understands(tree, now.day), now.day);
            case 9:
                return lore.closure(tree.knows, NONE);
            case 10:
                liveOn(tree, 0, THOUGHT_DAYS);
                return ALL_FACTS & ~later.knows;
            case 11:
                return lore.missed(tree.knows);
            default:
                return tellOf(tree, what);
        }
    }

    // ---- texts

    public int feed(int letter) {
        if (letter < 0 || letter > 255) {
            return BAD;
        }
        return reader.put(letter) ? reader.size : FULL;
    }

    public int text() {
        Rule rule = ruleAt(texts);
        if (rule == null) {
            return FULL;
        }
        int fault = reader.readInto(rule);
        reader.clear();
        if (fault != NONE) {
            return -100 - fault;
        }
        texts++;
        return texts - 1;
    }

    public int force(int text) {
        Rule rule = text < texts ? ruleAt(text) : null;
        if (rule == null) {
            return BAD;
        }
        int was = now.rule;
        now.rule = text;
        ways.rule = rule;
        return was;
    }

    // ---- what follows

    public int follows(int set, int what) {
        if (!isSet(set)) {
            return BAD;
        }
        switch (what) {
            case 0:
                return lore.next(set, NONE);
            case 1:
                return lore.closure(set, NONE);
            case 2:
                return lore.rounds(set);
            default:
                return BAD;
        }
    }

    public int laws(int what) {
        if (what == 0) {
            return lore.idle();
        }
        if (what == 1) {
            return lore.roots();
        }
        if (what == 2) {
            return lore.same();
        }
        if (what >= 20) {
            return lore.has(what - 20) ? lore.fact[what - 20] : BAD;
        }
        return what >= 10 && lore.has(what - 10) ? lore.from[what - 10] : BAD;
    }

    // ---- telling, days

    public int tell(int house, int fact) {
        Tree tree = now.at(house);
        if (tree == null || !isFact(fact)) {
            return BAD;
        }
        if (tree.isKnown(fact)) {
            return STATE;
        }
        ways.hear(tree, fact, now.day);
        return tree.isKnown(fact) ? 1 : 0;
    }

    public int day() {
        if (now.day >= LAST_DAY) {
            return STATE;
        }
        int ahead = now.apples();
        now.pass(ways);
        return ahead - now.apples();
    }

    public int run(int house, int n, int what) {
        Tree tree = now.at(house);
        if (tree == null || !isDays(n) || what < 0 || what > 3) {
            return BAD;
        }
        if (what == 3) {
            return basketsBehind(n);
        }
        liveOn(tree, 0, n);
        if (what == 0) {
            return later.knows;
        }
        return what == 1 ? later.apples : later.ripe;
    }

    public int asks(int house, int fact, int what) {
        Tree tree = now.at(house);
        if (tree == null || !isFact(fact)) {
            return BAD;
        }
        switch (what) {
            case 0:
                return knowsWhen(tree, fact);
            case 1:
                return lore.fewest(tree.knows, fact);
            case 2:
                return Integer.bitCount(lore.fewest(tree.knows, fact));
            case 3:
                return ways.takes(tree, fact, now.day) ? 1 : 0;
            case 4:
                return ways.fall(tree, fact, now.day);
            default:
                return BAD;
        }
    }

    // ---- what would be best

    public int best(int house, int n, int what) {
        Tree tree = now.at(house);
        if (tree == null || !isDays(n) || what < 0 || what > 1) {
            return BAD;
        }
        int most = basketBehind(tree, 0, n);
        int which = NONE;
        for (int fact = 0; fact < FACTS; fact++) {
            if (ways.wouldLearn(tree, fact, now.day)) {
                int basket = basketBehind(tree, 1 << fact, n);
                if (basket > most) {
                    most = basket;
                    which = fact;
                }
            }
        }
        return what == 0 ? which : most;
    }

    public int whom(int fact, int n, int what) {
        if (!isFact(fact) || !isDays(n) || what < 0 || what > 1) {
            return BAD;
        }
        int untold = basketsBehind(n);
        int most = untold;
        int which = NONE;
        for (int i = 0; i < HOUSES; i++) {
            Tree tree = now.at(i);
            if (tree != null && ways.wouldLearn(tree, fact, now.day)) {
                int own = basketBehind(tree, 0, n);
                int together = untold - own + basketBehind(tree, 1 << fact, n);
                if (together > most) {
                    most = together;
                    which = i;
                }
            }
        }
        return what == 0 ? which : most;
    }

    // ---- trees that were told

    public int tells(int sheet, int house, int what) {
        Row row = rowAt(sheet);
        Tree tree = now.at(house);
        if (row == null || tree == null || what < 0 || what > 7) {
            return BAD;
        }
        if (row.isMissing()) {
            return NOTHING;
        }
        if (row.size > TOLD_DAYS) {
            return BAD;
        }
        switch (what) {
            case 0:
                return firstOther(row, tree);
            case 1:
                return bitsThatFit(row, tree, Tree.KIND, KINDS);
            case 2:
                return bitsThatFit(row, tree, Tree.NUMBER, NUMBERS);
            case 3:
                return ripesThatFit(row, tree);
            case 4:
                return leastRipeThatFits(row, tree);
            case 5:
                return bitsThatFit(row, tree, Tree.ONE_FACT, FACTS);
            case 6:
                return textsThatFit(row, tree);
            default:
                return housesThatFit(row);
        }
    }

    public int film(int sheet, int house, int n) {
        Row row = rowAt(sheet);
        Tree tree = now.at(house);
        if (row == null || tree == null || n < 0 || n > TOLD_DAYS) {
            return BAD;
        }
        row.begin(0, n);
        later.become(tree);
        for (int i = 0; i < n; i++) {
            ways.pass(later, now.day + i);
            row.put(i, later.apples);
        }
        return n;
    }

    public int drawn(int seed) {
        return basketsDrawn(seed);
    }

    public long chance(int seed, int m, int k, int part) {
        if (m < 1 || m > 20 || k < 0 || k > 999 || part < 0 || part > 1) {
            return NO;
        }
        int hits = 0;
        for (int i = 0; i < m; i++) {
            if (basketsDrawn(seed + i) >= k) {
                hits++;
            }
        }
        return inLowestTerms(part == 0 ? hits : m, hits, m);
    }

    public int image() {
        keptLaws = lore.many;
        kept.become(now);
        hasImage = true;
        return kept.many;
    }

    public int back() {
        if (!hasImage) {
            return STATE;
        }
        lore.leave(keptLaws);
        now.become(kept);
        Rule rule = ruleAt(now.rule);
        if (rule != null) {
            ways.rule = rule;
        }
        return now.many;
    }

    public int count(int what) {
        switch (what) {
            case 0:
                return now.many;
            case 1:
                return lore.many;
            case 2:
                return now.apples();
            case 3:
                return texts;
            case 4:
                return reader.size;
            case 5:
                return now.rule;
            default:
                return BAD;
        }
    }

    // ---- the host

    public int sheet(int sheet, int sort, int n) {
        Row row = rowAt(sheet);
        if (row == null || sort != MISSING && !isSort(sort)) {
            return BAD;
        }
        if (sort == MISSING) {
            row.begin(MISSING, 0);
            return 1;
        }
        if (n > ITEMS) {
            return BAD;
        }
        if (n < 0) {
            return BELOW;
        }
        row.begin(sort, n);
        return 1;
    }

    public int cell(int sheet, int i, int v) {
        Row row = rowAt(sheet);
        if (row == null) {
            return BAD;
        }
        if (row.isMissing()) {
            return NOTHING;
        }
        if (!row.has(i)) {
            return OUTSIDE;
        }
        row.put(i, v);
        return 1;
    }

    public int copy(int sheet, int i, int other, int j, int n) {
        Row source = rowAt(sheet);
        Row target = rowAt(other);
        if (source == null || target == null) {
            return BAD;
        }
        if (source.isMissing() || target.isMissing()) {
            return NOTHING;
        }
        if (source.sort != target.sort) {
            return UNLIKE;
        }
        if (!source.hasAll(i, n) || !target.hasAll(j, n)) {
            return OUTSIDE;
        }
        System.arraycopy(source.items, i, target.items, j, n);
        return n;
    }

    public int houses(int sheet, int sort, int from, int n) {
        Row row = rowAt(sheet);
        if (row == null || !isSort(sort) || n < 0 || n > HOUSES) {
            return BAD;
        }
        if (row.isMissing()) {
            return NOTHING;
        }
        if (row.sort != sort) {
            return UNLIKE;
        }
        int came = 0;
        for (int k = 0; k < n; k++) {
            int at = from + 2 * k;
            if (!row.hasAll(at, 2)) {
                return OUTSIDE;
            }
            int kind = row.items[at];
            int number = row.items[at + 1];
            if (isHouse(kind, number) && now.add(kind, number) != FULL) {
                came++;
            }
        }
        return came;
    }

    public int taken(int house, int k) {
        if (k < 0 || k >= KINDS) {
            return BAD;
        }
        Tree tree = now.at(house);
        if (tree == null) {
            return NOTHING;
        }
        return tree.isOf(k) ? tree.number : UNLIKE;
    }

    // ---- what numbers are such

    private static boolean isFact(int fact) {
        return fact >= 0 && fact < FACTS;
    }

    private static boolean isSet(int set) {
        return set >= 0 && set <= ALL_FACTS;
    }

    private static boolean isDays(int n) {
        return n >= 0 && n <= THOUGHT_DAYS;
    }

    private static boolean isSort(int sort) {
        return sort >= 0 && sort < SORTS;
    }

    private static boolean isHouse(int kind, int number) {
        return kind >= 0 && kind < KINDS && number >= 0 && number < NUMBERS;
    }

    /** The greatest v that set() takes for a what; below 0 where there is no such what. */
    private static int greatest(int what) {
        switch (what) {
            case 0:
                return LAST_DAY;
            case Tree.NUMBER:
                return NUMBERS - 1;
            case Tree.KNOWS:
                return ALL_FACTS;
            case Tree.APPLES:
            case Tree.RIPE:
                return MOST;
            default:
                return -1;
        }
    }

    private static int held(int value, int least, int most) {
        return Math.max(least, Math.min(most, value));
    }

    /** One of a and b, with what both can be divided by taken out; b is above 0. */
    private static int inLowestTerms(int one, int a, int b) {
        for (int d = b; d > 1; d--) {
            if (a % d == 0 && b % d == 0) {
                return one / d;
            }
        }
        return one;
    }

    private Rule ruleAt(int i) {
        return i >= 0 && i < rules.length ? rules[i] : null;
    }

    private Row rowAt(int i) {
        return i >= 0 && i < rows.length ? rows[i] : null;
    }

    private int tellOf(Tree tree, int what) {
        return what == 0 || tree == null ? now.day : tree.number(what);
    }

    // ---- in thought

    /** Leaves in later the tree as it would be behind n days, did it know more. */
    private void liveOn(Tree tree, int more, int n) {
        later.become(tree);
        later.knows |= more;
        for (int i = 0; i < n; i++) {
            ways.pass(later, now.day + i);
        }
    }

    private int basketBehind(Tree tree, int more, int n) {
        liveOn(tree, more, n);
        return tree.apples - later.apples;
    }

    private int basketsBehind(int n) {
        thought.become(now);
        for (int i = 0; i < n; i++) {
            thought.pass(ways);
        }
        return now.apples() - thought.apples();
    }

    private int knowsWhen(Tree tree, int fact) {
        later.become(tree);
        for (int n = 0; n < THOUGHT_DAYS; n++) {
            if (later.isKnown(fact)) {
                return n;
            }
            ways.pass(later, now.day + n);
        }
        return later.isKnown(fact) ? THOUGHT_DAYS : NONE;
    }

    private int basketsDrawn(int seed) {
        thought.become(now);
        if (thought.many <= 0) {
            return 0;
        }
        int z = seed;
        for (int i = 0; i < DRAWN_DAYS; i++) {
            z = z * 1103515245 + 12345;
            Tree tree = thought.at((z >>> 9) % thought.many);
            if (tree != null) {
                ways.hear(tree, (z >>> 17) % FACTS, thought.day);
            }
            thought.pass(ways);
        }
        return now.apples() - thought.apples();
    }

    // ---- read back

    private int firstOther(Row row, Tree tree) {
        later.become(tree);
        for (int i = 0; i < TOLD_DAYS && row.has(i); i++) {
            ways.pass(later, now.day + i);
            if (later.apples != row.items[i]) {
                return i;
            }
        }
        return NONE;
    }

    private int bitsThatFit(Row row, Tree tree, int what, int values) {
        int bits = 0;
        for (int v = 0; v < values; v++) {
            changed.become(tree);
            changed.change(what, v);
            if (firstOther(row, changed) == NONE) {
                bits |= 1 << v;
            }
        }
        return bits;
    }

    private int ripesThatFit(Row row, Tree tree) {
        int many = 0;
        changed.become(tree);
        for (int ripe = 0; ripe < RIPES; ripe++) {
            changed.ripe = ripe;
            if (firstOther(row, changed) == NONE) {
                many++;
            }
        }
        return many;
    }

    private int leastRipeThatFits(Row row, Tree tree) {
        changed.become(tree);
        for (int ripe = 0; ripe < RIPES; ripe++) {
            changed.ripe = ripe;
            if (firstOther(row, changed) == NONE) {
                return ripe;
            }
        }
        return NONE;
    }

    private int textsThatFit(Row row, Tree tree) {
        int bits = 0;
        Rule ruling = ways.rule;
        for (int i = 0; i < texts; i++) {
            Rule rule = ruleAt(i);
            if (rule != null) {
                ways.rule = rule;
                bits |= firstOther(row, tree) == NONE ? 1 << i : 0;
            }
        }
        ways.rule = ruling;
        return bits;
    }

    private int housesThatFit(Row row) {
        int bits = 0;
        for (int i = 0; i < HOUSES; i++) {
            Tree tree = now.at(i);
            if (tree != null && firstOther(row, tree) == NONE) {
                bits |= 1 << i;
            }
        }
        return bits;
    }

    /** The laws, and what follows by them; "without" is a law to be left out, or NONE. */
    private static final class Lore {
        final int[] from = new int[LAWS];
        final int[] fact = new int[LAWS];
        private final int[] ofOne = new int[FACTS];
        int many = 0;

        boolean has(int law) {
            return law >= 0 && law < many && law < LAWS;
        }

        int add(int from, int fact) {
            if (many < 0 || many >= LAWS) {
                return FULL;
            }
            this.from[many] = from;
            this.fact[many] = fact;
            many++;
            return many - 1;
        }

        /** Laws come behind others only, so the first ones are as they were. */
        void leave(int first) {
            many = first;
        }

        int next(int set, int without) {
            int found = 0;
            for (int law = 0; law < many && law < LAWS; law++) {
                if (law != without && (from[law] & ~set) == 0) {
                    found |= 1 << fact[law];
                }
            }
            return found & ~set;
        }

        int closure(int set, int without) {
            int all = set;
            for (int round = 0; round < FACTS; round++) {
                int more = next(all, without);
                if (more == 0) {
                    return all;
                }
                all |= more;
            }
            return all;
        }

        int rounds(int set) {
            int all = set;
            for (int round = 0; round < FACTS; round++) {
                int more = next(all, NONE);
                if (more == 0) {
                    return round;
                }
                all |= more;
            }
            return FACTS;
        }

        int idle() {
            int bits = 0;
            for (int law = 0; law < many && law < LAWS; law++) {
                bits |= (closure(from[law], law) >> fact[law] & 1) << law;
            }
            return bits;
        }

        int roots() {
            int bits = ALL_FACTS;
            for (int law = 0; law < many && law < LAWS; law++) {
                bits &= ~(1 << fact[law]);
            }
            return bits;
        }

        int same() {
            for (int f = 0; f < FACTS; f++) {
                ofOne[f] = closure(1 << f, NONE);
            }
            int twos = 0;
            for (int f = 0; f < FACTS; f++) {
                for (int g = 0; g < f; g++) {
                    twos += ofOne[f] >> g & ofOne[g] >> f & 1;
                }
            }
            return twos;
        }

        /** No set of two is ever the fewest: a fact that isn't known is a set of one for itself. */
        int fewest(int knows, int asked) {
            if ((closure(knows, NONE) >> asked & 1) != 0) {
                return 0;
            }
            for (int f = 0; f < FACTS; f++) {
                boolean isNew = (knows >> f & 1) == 0;
                if (isNew && (closure(knows | 1 << f, NONE) >> asked & 1) != 0) {
                    return 1 << f;
                }
            }
            return 1 << asked;
        }

        int missed(int knows) {
            int fewest = Integer.bitCount(closure(knows, NONE));
            int which = NONE;
            for (int law = 0; law < many && law < LAWS; law++) {
                int left = Integer.bitCount(closure(knows, law));
                if (left < fewest) {
                    fewest = left;
                    which = law;
                }
            }
            return which;
        }
    }

    /** One house with its tree. */
    private static final class Tree {
        // 1 to 4 are the numbers that set() and told() give these.
        static final int NUMBER = 1, KNOWS = 2, APPLES = 3, RIPE = 4, KIND = 5, ONE_FACT = 6;
        private static final int[] ABOVE = {NONE, HOUSE, HOUSE, FAMILY, HEBBS, HOUSE};

        int kind, number, knows, apples, ripe;

        void begin(int kind, int number) {
            this.kind = kind;
            this.number = number;
            knows = 0;
            apples = 50;
            ripe = 0;
        }

        void become(Tree other) {
            kind = other.kind;
            number = other.number;
            knows = other.knows;
            apples = other.apples;
            ripe = other.ripe;
        }

        boolean isKnown(int fact) {
            return (knows >> fact & 1) != 0;
        }

        boolean isOf(int wanted) {
            int at = kind;
            for (int i = 0; i < KINDS; i++) {
                if (at == wanted) {
                    return true;
                }
                at = at >= 0 && at < ABOVE.length ? ABOVE[at] : NONE;
            }
            return false;
        }

        int number(int what) {
            switch (what) {
                case NUMBER:
                    return number;
                case KNOWS:
                    return knows;
                case APPLES:
                    return apples;
                default:
                    return ripe;
            }
        }

        void change(int what, int v) {
            switch (what) {
                case NUMBER:
                    number = v;
                    break;
                case KNOWS:
                    knows = v;
                    break;
                case APPLES:
                    apples = v;
                    break;
                case RIPE:
                    ripe = v;
                    break;
                case KIND:
                    kind = v;
                    break;
                default:
                    knows ^= 1 << v;
            }
        }
    }

    /** All houses, the day, and by which text they live. */
    private static final class Orchard {
        private final Tree[] trees = new Tree[HOUSES];
        int many = 0, day = 0, rule = 0;

        Orchard() {
            for (int i = 0; i < trees.length; i++) {
                trees[i] = new Tree();
            }
        }

        Tree at(int house) {
            return house >= 0 && house < many && house < HOUSES ? trees[house] : null;
        }

        int add(int kind, int number) {
            if (many < 0 || many >= HOUSES) {
                return FULL;
            }
            many++;
            Tree tree = at(many - 1);
            if (tree != null) {
                tree.begin(kind, number);
            }
            return many - 1;
        }

        void become(Orchard other) {
            many = other.many;
            day = other.day;
            rule = other.rule;
            for (int i = 0; i < HOUSES; i++) {
                Tree tree = at(i);
                Tree like = other.at(i);
                if (tree != null && like != null) {
                    tree.become(like);
                }
            }
        }

        int apples() {
            int together = 0;
            for (int i = 0; i < HOUSES; i++) {
                Tree tree = at(i);
                together += tree != null ? tree.apples : 0;
            }
            return together;
        }

        void pass(Ways ways) {
            for (int i = 0; i < HOUSES; i++) {
                Tree tree = at(i);
                if (tree != null) {
                    ways.pass(tree, day);
                }
            }
            day++;
        }
    }

    /** What each kind of house makes of the laws and of the text that rules. */
    private static final class Ways {
        private final Lore lore;
        private final int[] names = new int[Rule.NAMED];
        Rule rule;

        Ways(Lore lore, Rule rule) {
            this.lore = lore;
            this.rule = rule;
        }

        int understands(Tree tree, int day) {
            int near = lore.next(tree.knows, NONE);
            int least = near & -near;
            switch (tree.kind) {
                case FAMILY:
                    return least;
                case HEBBS:
                    return lore.closure(tree.knows, NONE) & ~tree.knows;
                case DREAMER:
                    return day % 2 == 0 ? least : 0;
                case MASTER:
                    return lore.closure(tree.knows, NONE) & ~tree.knows & ~(1 << tree.number);
                case GIRL:
                    return near == least ? 0 : near;
                default:
                    return near;
            }
        }

        int fall(Tree tree, int fact, int day) {
            describe(tree, fact, day);
            int v = held(rule.value(FALLS, names), 0, MOST);
            switch (tree.kind) {
                case FAMILY:
                    return v / 2;
                case HEBBS:
                case MASTER:
                    return held(v + 1, 0, MOST);
                case DREAMER:
                    return held(v / 2 + tree.number, 0, MOST);
                case GIRL:
                    return tree.ripe > 50 ? held(2 * v, 0, MOST) : 0;
                default:
                    return v;
            }
        }

        boolean takes(Tree tree, int fact, int day) {
            if (tree.kind == HEBBS) {
                return true;
            }
            if (tree.kind == MASTER) {
                return fact != tree.number;
            }
            describe(tree, fact, day);
            boolean yes = rule.value(TAKES, names) != 0;
            return yes && (tree.kind != FAMILY || lore.next(tree.knows, NONE) != 0);
        }

        boolean wouldLearn(Tree tree, int fact, int day) {
            return !tree.isKnown(fact) && takes(tree, fact, day);
        }

        void hear(Tree tree, int fact, int day) {
            if (wouldLearn(tree, fact, day)) {
                tree.knows |= 1 << fact;
            }
        }

        int fallen(Tree tree, int understood, int day) {
            int together = 0;
            for (int fact = 0; fact < FACTS; fact++) {
                if ((understood >> fact & 1) != 0) {
                    together += fall(tree, fact, day);
                }
            }
            return together;
        }

        void pass(Tree tree, int day) {
            int understood = understands(tree, day);
            int fallen = fallen(tree, understood, day);
            tree.knows |= understood;
            tree.apples = Math.max(0, tree.apples - fallen);
            describe(tree, 0, day);
            int riper = held(rule.value(RIPENS, names), -9, 9);
            tree.ripe = held(tree.ripe + riper, 0, MOST);
        }

        /** In the order of the names in Reader.WORDS. */
        private void describe(Tree tree, int fact, int day) {
            names[0] = fact;
            names[1] = tree.ripe;
            names[2] = tree.number;
            names[3] = day;
            names[4] = Integer.bitCount(tree.knows);
            names[5] = tree.apples;
        }
    }

    /** A text as steps: numbers and names, and behind those that it is of each operation. */
    private static final class Rule {
        // Numbers have four digits at most: what is less than NAMES is one.
        static final int NAMES = 10000, NAMED = 6;
        static final int OF_ONE = 20000, NEGATE = OF_ONE, NOT = OF_ONE + 1;
        static final int OF_TWO = 30000, ADD = OF_TWO, SUBTRACT = OF_TWO + 1, TIMES = OF_TWO + 2;
        static final int LESS = OF_TWO + 3, EQUAL = OF_TWO + 4, AND = OF_TWO + 5, OR = OF_TWO + 6;
        // At most five values wait in each of the six depths of a text, and one more.
        private static final int WAITING = 31;

        private final int[] code = new int[TAPE];
        private final int[] ends = new int[3];
        private final int[] waiting = new int[WAITING];
        private int size = 0;

        void clear() {
            size = 0;
        }

        void add(int step) {
            if (size >= 0 && size < TAPE) {
                code[size] = step;
                size++;
            }
        }

        void endPart(int part) {
            if (part >= 0 && part < ends.length) {
                ends[part] = size;
            }
        }

        int value(int part, int[] names) {
            if (part < 0 || part >= ends.length) {
                return 0;
            }
            int top = 0;
            for (int i = part == 0 ? 0 : ends[part - 1]; i < ends[part] && i < TAPE; i++) {
                int step = code[i];
                if (step >= OF_TWO) {
                    if (top >= 2) {
                        top--;
                        waiting[top - 1] = ofTwo(step, waiting[top - 1], waiting[top]);
                    }
                } else if (step >= OF_ONE) {
                    if (top >= 1) {
                        waiting[top - 1] = ofOne(step, waiting[top - 1]);
                    }
                } else if (top < WAITING) {
                    int name = step - NAMES;
                    waiting[top] = name >= 0 && name < names.length ? names[name] : step;
                    top++;
                }
            }
            return top > 0 ? waiting[0] : 0;
        }

        private static int ofOne(int step, int a) {
            if (step == NEGATE) {
                return -a;
            }
            return a == 0 ? 1 : 0;
        }

        private static int ofTwo(int step, int a, int b) {
            switch (step) {
                case ADD:
                    return a + b;
                case SUBTRACT:
                    return a - b;
                case TIMES:
                    return a * b;
                case LESS:
                    return a < b ? 1 : 0;
                case EQUAL:
                    return a == b ? 1 : 0;
                case AND:
                    return a != 0 && b != 0 ? 1 : 0;
                default:
                    return a != 0 || b != 0 ? 1 : 0;
            }
        }
    }

    /** The tape, and how a text is read from it. */
    private static final class Reader {
        // A sign is its own token; these are below all signs. ODD can stand nowhere.
        private static final int END = 0, ODD = 1, NUMBER = 2, NAME = 3;
        // Names first, then the keys, in the order of their tokens.
        private static final String WORDS =
            "fact ripe number day known apples falls ripens takes or and not ";
        private static final int KEYS = 4, OR_KEY = KEYS + 3, AND_KEY = KEYS + 4, NOT_KEY = KEYS + 5;
        private static final int OPEN = 5, DIGITS = 4;

        private final int[] tape = new int[TAPE];
        int size = 0;
        private Rule rule;
        private int at, place, token, value;
        private int fault = NONE;

        Reader(Rule rule) {
            this.rule = rule;
        }

        boolean put(int letter) {
            if (size < 0 || size >= TAPE) {
                return false;
            }
            tape[size] = letter;
            size++;
            return true;
        }

        void clear() {
            size = 0;
        }

        /** The place of the fault, or NONE. */
        int readInto(Rule target) {
            rule = target;
            rule.clear();
            fault = NONE;
            at = 0;
            advance();
            for (int part = FALLS; part <= TAKES && fault == NONE; part++) {
                expect(KEYS + part);
                readEither(0);
                expect(';');
                rule.endPart(part);
            }
            if (token != END) {
                fail();
            }
            return fault;
        }

        /** Only the first fault counts; behind it nothing is read any more. */
        private void fail() {
            if (fault == NONE) {
                fault = place;
            }
        }

        private void expect(int wanted) {
            if (token != wanted) {
                fail();
            }
            advance();
        }

        // "open" is how many ( , not and - are open: it ends the recursion, which goes through a ( alone.

        private void readEither(int open) {
            readBoth(open);
            for (int i = 0; i < TAPE && token == OR_KEY && fault == NONE; i++) {
                advance();
                readBoth(open);
                rule.add(Rule.OR);
            }
        }

        private void readBoth(int open) {
            readNot(open);
            for (int i = 0; i < TAPE && token == AND_KEY && fault == NONE; i++) {
                advance();
                readNot(open);
                rule.add(Rule.AND);
            }
        }

        private void readNot(int open) {
            int nots = readOpen(NOT_KEY, open);
            readCompared(open + nots);
            for (int i = 0; i < nots; i++) {
                rule.add(Rule.NOT);
            }
        }

        private void readCompared(int open) {
            readSum(open);
            int sign = token;
            if (sign == '<' || sign == '=') {
                advance();
                readSum(open);
                rule.add(sign == '<' ? Rule.LESS : Rule.EQUAL);
            }
        }

        private void readSum(int open) {
            readTerm(open);
            for (int i = 0; i < TAPE && (token == '+' || token == '-') && fault == NONE; i++) {
                int sign = token;
                advance();
                readTerm(open);
                rule.add(sign == '+' ? Rule.ADD : Rule.SUBTRACT);
            }
        }

        private void readTerm(int open) {
            readOne(open);
            for (int i = 0; i < TAPE && token == '*' && fault == NONE; i++) {
                advance();
                readOne(open);
                rule.add(Rule.TIMES);
            }
        }

        private void readOne(int open) {
            int minuses = readOpen('-', open);
            int within = open + minuses;
            if (token == NUMBER || token == NAME) {
                rule.add(value);
                advance();
            } else if (token == '(' && within < OPEN) {
                advance();
                readEither(within + 1);
                expect(')');
            } else {
                fail();
            }
            for (int i = 0; i < minuses; i++) {
                rule.add(Rule.NEGATE);
            }
        }

        /** How many not or - stand here one behind the other; one too many stays, and no ONE begins with it. */
        private int readOpen(int wanted, int open) {
            int many = 0;
            while (open + many < OPEN && token == wanted) {
                advance();
                many++;
            }
            return many;
        }

        /** Behind a fault the token stays, so that all that waits for it ends. */
        private void advance() {
            if (fault != NONE) {
                return;
            }
            while (at < size && at < TAPE && isBlank(tape[at])) {
                at++;
            }
            place = at;
            if (at < 0 || at >= size || at >= TAPE) {
                token = END;
            } else if (isLetter(tape[at])) {
                readWord();
            } else if (isDigit(tape[at])) {
                readNumber();
            } else {
                token = isSign(tape[at]) ? tape[at] : ODD;
                at++;
            }
        }

        private void readNumber() {
            value = 0;
            while (at < size && at < TAPE && isDigit(tape[at])) {
                value = value * 10 + tape[at] - '0';
                at++;
            }
            token = at - place <= DIGITS ? NUMBER : ODD;
        }

        private void readWord() {
            while (at < size && at < TAPE && isLetter(tape[at])) {
                at++;
            }
            int word = wordRead();
            if (word < Rule.NAMED) {
                token = word == NONE ? ODD : NAME;
                value = Rule.NAMES + word;
            } else {
                token = KEYS + word - Rule.NAMED;
            }
        }

        /** Which of WORDS stands from place to at, or NONE. */
        private int wordRead() {
            int word = 0;
            int alike = 0;
            for (int i = 0; i < WORDS.length(); i++) {
                int letter = WORDS.charAt(i);
                int there = place + Math.max(alike, 0);
                if (letter == ' ') {
                    if (alike == at - place) {
                        return word;
                    }
                    word++;
                    alike = 0;
                } else if (alike >= 0 && there < at && there < TAPE && tape[there] == letter) {
                    alike++;
                } else {
                    alike = NONE;
                }
            }
            return NONE;
        }

        private static boolean isBlank(int letter) {
            return letter == 32 || letter == 10;
        }

        private static boolean isLetter(int letter) {
            return letter >= 'a' && letter <= 'z';
        }

        private static boolean isDigit(int letter) {
            return letter >= '0' && letter <= '9';
        }

        private static boolean isSign(int letter) {
            switch (letter) {
                case '(':
                case ')':
                case ';':
                case '+':
                case '-':
                case '*':
                case '<':
                case '=':
                    return true;
                default:
                    return false;
            }
        }
    }

    /** A sheet of the host. */
    private static final class Row {
        final int[] items = new int[ITEMS];
        int sort = MISSING, size = 0;

        boolean isMissing() {
            return sort == MISSING;
        }

        boolean has(int i) {
            return i >= 0 && i < size && i < ITEMS;
        }

        boolean hasAll(int i, int n) {
            return n >= 0 && i >= 0 && i <= size - n && i <= ITEMS - n;
        }

        void begin(int sort, int size) {
            this.sort = sort;
            this.size = size;
            for (int i = 0; i < ITEMS; i++) {
                items[i] = 0;
            }
        }

        void put(int i, int v) {
            if (has(i)) {
                items[i] = sort == 0 ? (byte) v : sort == 1 ? (short) v : v;
            }
        }
    }
}
