/**
 * Towns of families, and which town is more even than another one.
 *
 * Every row is made in a constructor and used again: no call makes an object.
 */
public final class MoreEven {
    public static final int UNKNOWN = -1, OUTSIDE = -2, STATE = -3, FULL = -4, NONE = -9;

    private static final int TOWNS = 4;
    private static final int FAMILIES = 8;
    private static final int PARTS = 3;
    private static final int BANDS = 4;
    private static final int MOST = 99;
    private static final int VALUES = MOST + 1;
    private static final int SIZES = 9;
    private static final int MOST_LINE = 100;
    private static final int MOST_SHARE = 100;
    private static final int MOST_RATE = 10;
    private static final int MOST_PAIRS = 4096;
    private static final int KINDS = 6;
    private static final int TRIO = 3;
    private static final int TRIO_VALUES = 6;
    private static final int TRIO_TOWNS = 216;
    private static final int SETS = 256;
    private static final int WHOLE_TOWN = -1;
    private static final int BETWEEN = 3;

    private final Town[] towns = new Town[TOWNS];
    private final Bands bands = new Bands();
    private final Walk walk = new Walk();
    private final Coins fewest = new Coins();
    private final Answers answers = new Answers();
    private final int[] before = new int[TRIO];
    private final int[] after = new int[TRIO];

    public MoreEven() {
        for (int t = 0; t < TOWNS; t++) {
            towns[t] = new Town();
        }
    }

    // ---- towns

    public int family(int town, int low, int high, int size, int part) {
        Town home = townAt(town);
        if (home == null || !isWithin(part, 0, PARTS - 1)) {
            return UNKNOWN;
        }
        if (!areEnds(low, high) || !isWithin(size, 1, SIZES)) {
            return OUTSIDE;
        }
        if (home.families >= FAMILIES) {
            return FULL;
        }
        home.add(low, high, size, part);
        return home.families;
    }

    public int know(int town, int family, int low, int high) {
        Town home = townAt(town);
        if (home == null || !home.holds(family)) {
            return UNKNOWN;
        }
        if (!areEnds(low, high)) {
            return OUTSIDE;
        }
        int was = 100 * home.low[family] + home.high[family];
        home.low[family] = low;
        home.high[family] = high;
        return was;
    }

    public int clear(int town) {
        Town home = townAt(town);
        if (home == null) {
            return UNKNOWN;
        }
        int had = home.families;
        home.families = 0;
        return had;
    }

    public int about(int town, int family, int what) {
        Town home = townAt(town);
        if (home == null || !home.holds(family)) {
            return UNKNOWN;
        }
        switch (what) {
            case 0:
                return home.low[family];
            case 1:
                return home.high[family];
            case 2:
                return home.size[family];
            case 3:
                return home.part[family];
            default:
                return OUTSIDE;
        }
    }

    public int town(int town, int what) {
        Town home = townAt(town);
        if (home == null) {
            return UNKNOWN;
        }
        switch (what) {
            case 0:
                return home.families;
            case 1:
                return home.isKnown() ? 1 : 0;
            case 2:
                return sumOf(home.size, home.families);
            case 3:
                return sumOf(home.low, home.families);
            case 4:
                return sumOf(home.high, home.families);
            default:
                return OUTSIDE;
        }
    }

    // ---- orders

    public int order(int a, int b, int scale, int kind) {
        Town first = townAt(a);
        Town second = townAt(b);
        if (first == null || second == null) {
            return UNKNOWN;
        }
        if (!isScale(scale) || !isOrder(kind)) {
            return OUTSIDE;
        }
        if (!first.isReady() || !second.isReady()) {
            return STATE;
        }
        first.startFillings();
        walk.first.look(first, scale, kind == 0);
        second.startFillings();
        walk.second.look(second, scale, kind == 0);
        return walk.told(kind);
    }

    public int where(int a, int b, int scale, int kind, boolean upper) {
        int told = order(a, b, scale, kind);
        if (told < 0) {
            return told;
        }
        // order() has left both towns in the walk.
        long at = walk.firstMore(kind);
        return at == NONE ? NONE : (int) inLeastTerms(at, walk.atEnd(), upper);
    }

    public long below(int town, int scale, int n, int m, boolean upper) {
        Town home = townAt(town);
        if (home == null) {
            return UNKNOWN;
        }
        if (!isScale(scale) || !isWithin(m, 1, MOST_SHARE) || !isWithin(n, 0, m)) {
            return OUTSIDE;
        }
        if (!home.isReady()) {
            return STATE;
        }
        Curve curve = walk.first;
        home.startFillings();
        curve.look(home, scale, true);
        return inLeastTerms(curve.heldByShare(n, m), m * curve.whole, upper);
    }

    // ---- coins

    public int coins(int from, int to) {
        Town first = townAt(from);
        Town second = townAt(to);
        if (first == null || second == null) {
            return UNKNOWN;
        }
        if (!first.isKnown() || !second.isKnown() || first.families != second.families) {
            return STATE;
        }
        if (sumOf(first.low, first.families) != sumOf(second.low, second.families)) {
            return STATE;
        }
        return fewest.between(first, second);
    }

    public int give(int town, int from, int to, int amount) {
        int coin = would(town, from, to, amount);
        Town home = townAt(town);
        if (coin < 0 || home == null) {
            return coin;
        }
        home.hold(from, home.low[from] - amount);
        home.hold(to, home.low[to] + amount);
        return coin;
    }

    public int would(int town, int from, int to, int amount) {
        Town home = townAt(town);
        if (home == null || !home.holds(from) || !home.holds(to)) {
            return UNKNOWN;
        }
        if (!isWithin(amount, 1, MOST)) {
            return OUTSIDE;
        }
        if (!home.isKnown() || from == to) {
            return STATE;
        }
        int left = home.low[from] - amount;
        int got = home.low[to] + amount;
        if (left < 0 || got > MOST) {
            return STATE;
        }
        return left >= got ? 1 : 0;
    }

    // ---- measures

    public long measure(int town, int kind, int k, boolean upper) {
        Town home = townAt(town);
        if (home == null) {
            return UNKNOWN;
        }
        if (!Measures.takes(kind, k)) {
            return OUTSIDE;
        }
        if (!home.isReady()) {
            return STATE;
        }
        long above = Measures.above(kind, k, home.low, home.families);
        return inLeastTerms(above, Measures.under(kind, home.low, home.families), upper);
    }

    public int calls(int a, int b, int kind, int k) {
        Town first = townAt(a);
        Town second = townAt(b);
        if (first == null || second == null) {
            return UNKNOWN;
        }
        if (!Measures.takes(kind, k)) {
            return OUTSIDE;
        }
        if (!first.isReady() || !second.isReady()) {
            return STATE;
        }
        return Measures.moreEven(kind, k, first, second);
    }

    public int minds(int kind, int k) {
        int first = against(kind, k);
        if (first == NONE) {
            return 1;
        }
        return first < 0 ? first : 0;
    }

    public int against(int kind, int k) {
        if (!Measures.takes(kind, k)) {
            return OUTSIDE;
        }
        for (int told = 0; told < TRIO_TOWNS; told++) {
            before[0] = told / (TRIO_VALUES * TRIO_VALUES);
            before[1] = told / TRIO_VALUES % TRIO_VALUES;
            before[2] = told % TRIO_VALUES;
            if (someCoinMakesGreater(kind, k)) {
                return told;
            }
        }
        return NONE;
    }

    public int part(int a, int b, int k) {
        Town first = townAt(a);
        Town second = townAt(b);
        if (first == null || second == null) {
            return UNKNOWN;
        }
        if (!isWithin(k, 0, FAMILIES)) {
            return OUTSIDE;
        }
        if (!first.isReady() || !second.isReady()) {
            return STATE;
        }
        return firstParting(first, second, k);
    }

    // ---- hidden

    public long fillings(int town) {
        Town home = townAt(town);
        return home == null ? UNKNOWN : home.ways();
    }

    public int hidden(int a, int b, int scale, int kind, int told) {
        Town first = townAt(a);
        Town second = townAt(b);
        if (first == null || second == null) {
            return UNKNOWN;
        }
        if (!isScale(scale) || !isOrder(kind) || !isWithin(told, 0, 3)) {
            return OUTSIDE;
        }
        if (a == b || !canTryAll(first, second)) {
            return STATE;
        }
        int times = 0;
        long ways = first.ways();
        first.startFillings();
        for (long way = 0; way < ways; way++) {
            walk.first.look(first, scale, kind == 0);
            times += timesTold(second, scale, kind, told);
            first.nextFilling();
        }
        return times;
    }

    public int ask(int a, int b, int scale, int kind) {
        Town first = townAt(a);
        Town second = townAt(b);
        if (first == null || second == null) {
            return UNKNOWN;
        }
        if (!isScale(scale) || !isOrder(kind)) {
            return OUTSIDE;
        }
        if (a == b || !canTryAll(first, second)) {
            return STATE;
        }
        answers.forget();
        long ways = first.ways();
        first.startFillings();
        for (long way = 0; way < ways; way++) {
            walk.first.look(first, scale, kind == 0);
            answers.note(first, allTold(second, scale, kind));
            first.nextFilling();
        }
        return answers.best(first);
    }

    // ---- poor, spread

    public int poor(int town, int line, boolean lack) {
        Town home = townAt(town);
        if (home == null) {
            return UNKNOWN;
        }
        if (!isWithin(line, 0, MOST_LINE)) {
            return OUTSIDE;
        }
        if (!home.isKnown()) {
            return STATE;
        }
        return lack ? lackBelow(home, line) : poorBelow(home, line);
    }

    public int never(int a, int b, int line, int kind) {
        int first = edge(a, b, line, kind);
        if (first == NONE) {
            return 1;
        }
        return first < 0 ? first : 0;
    }

    public int edge(int a, int b, int line, int kind) {
        Town first = townAt(a);
        Town second = townAt(b);
        if (first == null || second == null) {
            return UNKNOWN;
        }
        if (!isWithin(line, 0, MOST_LINE) || !isOrder(kind)) {
            return OUTSIDE;
        }
        if (!first.isReady() || !second.isReady()) {
            return STATE;
        }
        for (int z = 0; z <= line; z++) {
            int here = kind == 0 ? poorBelow(first, z) : lackBelow(first, z);
            int there = kind == 0 ? poorBelow(second, z) : lackBelow(second, z);
            if (here * second.families > there * first.families) {
                return z;
            }
        }
        return NONE;
    }

    public long spread(int town, int part, boolean upper) {
        Town home = townAt(town);
        if (home == null || !isWithin(part, WHOLE_TOWN, BETWEEN)) {
            return UNKNOWN;
        }
        if (!home.isReady()) {
            return STATE;
        }
        if (part == BETWEEN) {
            return spreadBetween(home, upper);
        }
        return spreadWithin(home, part, upper);
    }

    // ---- years, taxes

    public int moved(int a, int b) {
        Town first = townAt(a);
        Town second = townAt(b);
        if (first == null || second == null) {
            return UNKNOWN;
        }
        if (!areTwoYears(first, second)) {
            return STATE;
        }
        int pairs = 0;
        for (int i = 0; i < first.families; i++) {
            for (int j = 0; j < i; j++) {
                int then = Integer.compare(first.low[i], first.low[j]);
                int now = Integer.compare(second.low[i], second.low[j]);
                if (then * now < 0) {
                    pairs++;
                }
            }
        }
        return pairs;
    }

    public int rose(int a, int b, int family) {
        Town first = townAt(a);
        Town second = townAt(b);
        if (first == null || second == null || !first.holds(family) || !second.holds(family)) {
            return UNKNOWN;
        }
        if (!areTwoYears(first, second)) {
            return STATE;
        }
        return 100 + poorBelow(second, second.low[family]) - poorBelow(first, first.low[family]);
    }

    public int band(int from, int rate) {
        if (!isWithin(from, 0, MOST) || !isWithin(rate, 0, MOST_RATE)) {
            return OUTSIDE;
        }
        if (bands.told >= BANDS) {
            return FULL;
        }
        bands.add(from, rate);
        return bands.told;
    }

    public int unband() {
        int were = bands.told;
        bands.told = 0;
        return were;
    }

    public int tax(int has) {
        return isWithin(has, 0, MOST) ? bands.taken(has) : OUTSIDE;
    }

    public int taxed(int from, int to) {
        Town source = townAt(from);
        Town target = townAt(to);
        if (source == null || target == null) {
            return UNKNOWN;
        }
        if (!source.isKnown() || from == to) {
            return STATE;
        }
        int together = 0;
        target.families = 0;
        for (int f = 0; f < source.families; f++) {
            int taken = bands.taken(source.low[f]);
            int left = source.low[f] - taken;
            target.add(left, left, source.size[f], source.part[f]);
            together += taken;
        }
        return together;
    }

    public int rises() {
        for (int has = 1; has < MOST; has++) {
            if (bands.taken(has) * (has + 1) > bands.taken(has + 1) * has) {
                return 0;
            }
        }
        return 1;
    }

    public int count(int what) {
        switch (what) {
            case 0:
                return allFamilies();
            case 1:
                return readyTowns();
            case 2:
                return bands.told;
            default:
                return OUTSIDE;
        }
    }

    // ---- what calls share

    private Town townAt(int town) {
        return isWithin(town, 0, TOWNS - 1) ? towns[town] : null;
    }

    private static boolean isWithin(int number, int least, int most) {
        return number >= least && number <= most;
    }

    private static boolean areEnds(int low, int high) {
        return isWithin(low, 0, MOST) && isWithin(high, low, MOST);
    }

    private static boolean isScale(int scale) {
        return isWithin(scale, 0, 2);
    }

    /** The two kinds of orders, and likewise of being poor. */
    private static boolean isOrder(int kind) {
        return isWithin(kind, 0, 1);
    }

    private static boolean areTwoYears(Town first, Town second) {
        return first.isKnown() && second.isKnown() && first.families == second.families;
    }

    private static int sumOf(int[] row, int length) {
        int sum = 0;
        for (int i = 0; i < length && i < row.length; i++) {
            sum += row[i];
        }
        return sum;
    }

    private static long inLeastTerms(long above, long under, boolean upper) {
        long divisor = commonDivisor(above, under);
        if (divisor < 1) {
            return upper ? above : under;
        }
        return (upper ? above : under) / divisor;
    }

    private static long commonDivisor(long one, long other) {
        // Euclid's way needs fewer than 100 turns for any two longs.
        for (int turn = 0; turn < 100 && other != 0; turn++) {
            long rest = one % other;
            one = other;
            other = rest;
        }
        return one;
    }

    private static boolean canTryAll(Town first, Town second) {
        if (first.families == 0 || second.families == 0) {
            return false;
        }
        // Each alone is tested first, as their product may not fit a long.
        long here = first.ways();
        long there = second.ways();
        return here <= MOST_PAIRS && there <= MOST_PAIRS && here * there <= MOST_PAIRS;
    }

    /** How often an order is told over all fillings of the second town, the first curve as it stands. */
    private int timesTold(Town second, int scale, int kind, int told) {
        int times = 0;
        long ways = second.ways();
        second.startFillings();
        for (long way = 0; way < ways; way++) {
            walk.second.look(second, scale, kind == 0);
            if (walk.told(kind) == told) {
                times++;
            }
            second.nextFilling();
        }
        return times;
    }

    /** A bit for each order that is told over all fillings of the second town. */
    private int allTold(Town second, int scale, int kind) {
        int bits = 0;
        long ways = second.ways();
        second.startFillings();
        for (long way = 0; way < ways; way++) {
            walk.second.look(second, scale, kind == 0);
            bits |= 1 << walk.told(kind);
            second.nextFilling();
        }
        return bits;
    }

    private boolean someCoinMakesGreater(int kind, int k) {
        for (int from = 0; from < TRIO; from++) {
            for (int to = 0; to < TRIO; to++) {
                if (before[from] >= before[to] + 2 && coinMakesGreater(kind, k, from, to)) {
                    return true;
                }
            }
        }
        return false;
    }

    private boolean coinMakesGreater(int kind, int k, int from, int to) {
        for (int i = 0; i < TRIO; i++) {
            after[i] = before[i] - (i == from ? 1 : 0) + (i == to ? 1 : 0);
        }
        // A coin leaves how many there are and what they have together: what stands below is the same.
        return Measures.above(kind, k, after, TRIO) > Measures.above(kind, k, before, TRIO);
    }

    private static int firstParting(Town first, Town second, int k) {
        int earlier = NONE;
        int earlierCall = 3;
        for (int kind = 0; kind < KINDS; kind++) {
            int call = Measures.moreEven(kind, Measures.hasNumber(kind) ? k : 0, first, second);
            if (call != 3 && earlier == NONE) {
                earlier = kind;
                earlierCall = call;
            }
            if (call != 3 && call != earlierCall) {
                return 10 * earlier + kind;
            }
        }
        return NONE;
    }

    private static int poorBelow(Town home, int line) {
        int poor = 0;
        for (int f = 0; f < home.families; f++) {
            if (home.low[f] < line) {
                poor++;
            }
        }
        return poor;
    }

    private static int lackBelow(Town home, int line) {
        int lack = 0;
        for (int f = 0; f < home.families; f++) {
            lack += Math.max(0, line - home.low[f]);
        }
        return lack;
    }

    /** The spread of a part, times how many it has, by all; of the whole town that is its own spread. */
    private static long spreadWithin(Town home, int part, boolean upper) {
        long some = 0;
        long sum = 0;
        long squares = 0;
        for (int f = 0; f < home.families; f++) {
            if (part == WHOLE_TOWN || home.part[f] == part) {
                some++;
                sum += home.low[f];
                squares += (long) home.low[f] * home.low[f];
            }
        }
        if (some == 0) {
            return inLeastTerms(0, 1, upper);
        }
        return inLeastTerms(some * squares - sum * sum, some * home.families, upper);
    }

    private static long spreadBetween(Town home, boolean upper) {
        long all = home.families;
        long sum = sumOf(home.low, home.families);
        long common = 1;
        for (int part = 0; part < PARTS; part++) {
            common *= Math.max(1, home.familiesOf(part));
        }
        long squares = 0;
        for (int part = 0; part < PARTS; part++) {
            long partSum = home.sumOfPart(part);
            squares += partSum * partSum * (common / Math.max(1, home.familiesOf(part)));
        }
        return inLeastTerms(all * squares - sum * sum * common, all * all * common, upper);
    }

    private int allFamilies() {
        int all = 0;
        for (int t = 0; t < TOWNS; t++) {
            Town home = townAt(t);
            if (home != null) {
                all += home.families;
            }
        }
        return all;
    }

    private int readyTowns() {
        int ready = 0;
        for (int t = 0; t < TOWNS; t++) {
            Town home = townAt(t);
            if (home != null && home.isReady()) {
                ready++;
            }
        }
        return ready;
    }

    /** The families of one town, and the filling of it that is looked at. */
    private static final class Town {
        int families;
        final int[] low = new int[FAMILIES];
        final int[] high = new int[FAMILIES];
        final int[] size = new int[FAMILIES];
        final int[] part = new int[FAMILIES];
        final int[] filling = new int[FAMILIES];

        boolean holds(int family) {
            return family >= 0 && family < families;
        }

        void add(int least, int most, int heads, int partOf) {
            if (families >= FAMILIES) {
                return;
            }
            low[families] = least;
            high[families] = most;
            size[families] = heads;
            part[families] = partOf;
            families++;
        }

        void hold(int family, int has) {
            if (holds(family)) {
                low[family] = has;
                high[family] = has;
            }
        }

        boolean isKnown() {
            for (int f = 0; f < families; f++) {
                if (low[f] != high[f]) {
                    return false;
                }
            }
            return true;
        }

        /** Known, and with families: then it can be looked at and measured. */
        boolean isReady() {
            return families > 0 && isKnown();
        }

        long ways() {
            long ways = 1;
            for (int f = 0; f < families; f++) {
                ways *= high[f] - low[f] + 1;
            }
            return ways;
        }

        void startFillings() {
            for (int f = 0; f < families; f++) {
                filling[f] = low[f];
            }
        }

        /** As an odometer; behind the last filling the first comes again. */
        void nextFilling() {
            for (int f = 0; f < families; f++) {
                if (filling[f] < high[f]) {
                    filling[f]++;
                    return;
                }
                filling[f] = low[f];
            }
        }

        int familiesOf(int partOf) {
            int some = 0;
            for (int f = 0; f < families; f++) {
                if (part[f] == partOf) {
                    some++;
                }
            }
            return some;
        }

        int sumOfPart(int partOf) {
            int sum = 0;
            for (int f = 0; f < families; f++) {
                if (part[f] == partOf) {
                    sum += low[f];
                }
            }
            return sum;
        }
    }

    /** A filling of a town by a scale, those with least first, and how far it has been walked. */
    private static final class Curve {
        /** All of 1 to 10 divide it, so what a head has stays whole by every scale. */
        private static final int UNIT = 2520;

        int pieces;
        long heads;
        long whole;
        private int piece;
        private long headsBefore;
        private long heldBefore;
        private final long[] weight = new long[FAMILIES];
        private final long[] each = new long[FAMILIES];

        void look(Town town, int scale, boolean evenIfNothing) {
            pieces = 0;
            heads = 0;
            whole = 0;
            for (int f = 0; f < town.families; f++) {
                insert(headHas(town, f, scale), scale == 0 ? 1 : town.size[f]);
            }
            if (evenIfNothing && whole == 0) {
                giveEachOne();
            }
        }

        private static long headHas(Town town, int f, int scale) {
            int all = UNIT * town.filling[f];
            if (scale == 0 || town.size[f] < 1) {
                return all;
            }
            return scale == 1 ? all / town.size[f] : 2 * all / (town.size[f] + 1);
        }

        /** Behind those that have as much: they are of lesser number. */
        private void insert(long headHas, long headsOfIt) {
            if (pieces >= FAMILIES) {
                return;
            }
            int place = pieces;
            while (place > 0 && each[place - 1] > headHas) {
                each[place] = each[place - 1];
                weight[place] = weight[place - 1];
                place--;
            }
            each[place] = headHas;
            weight[place] = headsOfIt;
            pieces++;
            heads += headsOfIt;
            whole += headHas * headsOfIt;
        }

        private void giveEachOne() {
            for (int i = 0; i < pieces; i++) {
                each[i] = 1;
            }
            whole = heads;
        }

        /** What the least n by m of all have, times m. */
        long heldByShare(int n, int m) {
            long left = n * heads;
            long held = 0;
            for (int i = 0; i < pieces; i++) {
                long taken = Math.min(left, weight[i] * m);
                held += taken * each[i];
                left -= taken;
            }
            return held;
        }

        void rewind() {
            piece = 0;
            headsBefore = 0;
            heldBefore = 0;
        }

        boolean isWalked() {
            return piece >= pieces;
        }

        /** Where the piece ends at which the walk stands, in shares of heads times parts. */
        long endOfPiece(long parts) {
            return isWalked() ? heads * parts : (headsBefore + weight[piece]) * parts;
        }

        /** What all before a place in the piece have, times parts. */
        long heldTo(long place, long parts) {
            long before = heldBefore * parts;
            return isWalked() ? before : before + (place - headsBefore * parts) * each[piece];
        }

        void leavePiece() {
            if (!isWalked()) {
                headsBefore += weight[piece];
                heldBefore += weight[piece] * each[piece];
                piece++;
            }
        }
    }

    /** Two curves walked from below together, from break to break. */
    private static final class Walk {
        final Curve first = new Curve();
        final Curve second = new Curve();
        private long firstTimes;
        private long secondTimes;
        private long place;
        private int sign;

        /** How many shares there are in all: with so many, the ends in both curves are whole. */
        long atEnd() {
            return first.heads * second.heads;
        }

        /** 1 the first is ahead, 2 the second, 3 both are the same, 0 neither. */
        int told(int kind) {
            boolean more = false;
            boolean less = false;
            start(kind);
            for (int step = 0; step < 2 * FAMILIES && toNextBreak(); step++) {
                more |= sign > 0;
                less |= sign < 0;
                if (more && less) {
                    return 0;
                }
            }
            if (more) {
                return 1;
            }
            return less ? 2 : 3;
        }

        /** The first break (of atEnd() shares) at which the first curve is above. */
        long firstMore(int kind) {
            start(kind);
            for (int step = 0; step < 2 * FAMILIES && toNextBreak(); step++) {
                if (sign > 0) {
                    return place;
                }
            }
            return NONE;
        }

        private void start(int kind) {
            first.rewind();
            second.rewind();
            // Tall, both are held by heads times heads already; long, each is still to be put by its whole.
            firstTimes = kind == 0 ? first.heads * second.whole : 1;
            secondTimes = kind == 0 ? second.heads * first.whole : 1;
        }

        private boolean toNextBreak() {
            if (first.isWalked() || second.isWalked()) {
                return false;
            }
            long firstEnd = first.endOfPiece(second.heads);
            long secondEnd = second.endOfPiece(first.heads);
            place = Math.min(firstEnd, secondEnd);
            long firstHeld = first.heldTo(place, second.heads) * firstTimes;
            long secondHeld = second.heldTo(place, first.heads) * secondTimes;
            sign = Long.compare(firstHeld, secondHeld);
            if (firstEnd == place) {
                first.leavePiece();
            }
            if (secondEnd == place) {
                second.leavePiece();
            }
            return true;
        }
    }

    /** The fewest coins that make one town of another one. */
    private static final class Coins {
        private final int[] due = new int[FAMILIES];
        private final int[] sum = new int[SETS];
        private final boolean[] canBe = new boolean[SETS];
        private final int[] groups = new int[SETS];

        /**
         * Places that coins link owe nothing to the others, and so many of them need one coin less than
         * they are: so the most groups tell the fewest coins.
         */
        int between(Town from, Town to) {
            int places = Math.min(from.families, FAMILIES);
            int sets = 1 << places;
            putDue(from, to, places);
            findSums(places);
            if (!canBe[sets - 1]) {
                return NONE;
            }
            groups[0] = 0;
            for (int set = 1; set < sets; set++) {
                groups[set] = mostGroups(set);
            }
            return places - groups[sets - 1];
        }

        private void putDue(Town from, Town to, int places) {
            for (int place = 0; place < places; place++) {
                due[place] = 0;
            }
            for (int f = 0; f < places; f++) {
                due[placeOf(to, f)] += to.low[f];
                due[placeOf(from, f)] -= from.low[f];
            }
        }

        private static int placeOf(Town town, int family) {
            int place = 0;
            for (int f = 0; f < town.families; f++) {
                if (town.low[f] < town.low[family] || town.low[f] == town.low[family] && f < family) {
                    place++;
                }
            }
            return place;
        }

        /** A set can be, if from below it never has more than is due: coins come from above alone. */
        private void findSums(int places) {
            sum[0] = 0;
            canBe[0] = true;
            for (int top = 0; top < places; top++) {
                int bit = 1 << top;
                for (int rest = 0; rest < bit; rest++) {
                    sum[bit + rest] = sum[rest] + due[top];
                    canBe[bit + rest] = canBe[rest] && sum[bit + rest] >= 0;
                }
            }
        }

        /** Into how many groups a set falls at most; less than none, if into none at all. */
        private int mostGroups(int set) {
            int most = -FAMILIES;
            int lowest = set & -set;
            int others = set - lowest;
            int some = others;
            for (int tried = 0; tried < SETS; tried++) {
                int group = some + lowest;
                if (sum[group] == 0 && canBe[group]) {
                    most = Math.max(most, groups[set - group] + 1);
                }
                if (some == 0) {
                    break;
                }
                some = (some - 1) & others;
            }
            return most;
        }
    }

    /** The measures, each as a number by another one. */
    private static final class Measures {
        static boolean hasNumber(int kind) {
            return kind >= 2 && kind <= 4;
        }

        static boolean takes(int kind, int k) {
            if (!isWithin(kind, 0, KINDS - 1)) {
                return false;
            }
            if (!hasNumber(kind)) {
                return k == 0;
            }
            return isWithin(k, 0, kind == 2 ? FAMILIES : MOST);
        }

        /** 1 the first is more even, 2 the second, 3 both alike. */
        static int moreEven(int kind, int k, Town first, Town second) {
            long here = above(kind, k, first.low, first.families) * under(kind, second.low, second.families);
            long there = above(kind, k, second.low, second.families) * under(kind, first.low, first.families);
            if (here == there) {
                return 3;
            }
            return here < there ? 1 : 2;
        }

        static long above(int kind, int k, int[] has, int all) {
            int length = Math.min(all, has.length);
            switch (kind) {
                case 0:
                    return greatestLessLeast(has, length);
                case 1:
                    return pairsDiffer(has, length);
                case 2:
                    return heldByMost(k, has, length);
                case 3:
                    return lessThan(k, has, length);
                case 4:
                    return lackTo(k, has, length);
                default:
                    return squaresLessSquare(has, length);
            }
        }

        static long under(int kind, int[] has, int all) {
            int by = 1;
            if (kind == 2) {
                by = sumOf(has, all);
            } else if (kind == 3 || kind == 4) {
                by = all;
            }
            return Math.max(1, by);
        }

        private static long greatestLessLeast(int[] has, int all) {
            int greatest = 0;
            int least = MOST;
            for (int i = 0; i < all; i++) {
                greatest = Math.max(greatest, has[i]);
                least = Math.min(least, has[i]);
            }
            return greatest - least;
        }

        private static long pairsDiffer(int[] has, int all) {
            long differ = 0;
            for (int i = 0; i < all; i++) {
                for (int j = 0; j < i; j++) {
                    differ += Math.abs(has[i] - has[j]);
                }
            }
            return differ;
        }

        private static long heldByMost(int k, int[] has, int all) {
            long held = 0;
            for (int i = 0; i < all; i++) {
                int ahead = 0;
                for (int j = 0; j < all; j++) {
                    if (has[j] > has[i] || has[j] == has[i] && j < i) {
                        ahead++;
                    }
                }
                if (ahead < k) {
                    held += has[i];
                }
            }
            return held;
        }

        private static long lessThan(int k, int[] has, int all) {
            long less = 0;
            for (int i = 0; i < all; i++) {
                if (has[i] < k) {
                    less++;
                }
            }
            return less;
        }

        private static long lackTo(int k, int[] has, int all) {
            long lack = 0;
            for (int i = 0; i < all; i++) {
                lack += Math.max(0, k - has[i]);
            }
            return lack;
        }

        private static long squaresLessSquare(int[] has, int all) {
            long squares = 0;
            long sum = 0;
            for (int i = 0; i < all; i++) {
                squares += (long) has[i] * has[i];
                sum += has[i];
            }
            return squares * all - sum * sum;
        }
    }

    /** What order() tells with each answer of each family of a town. */
    private static final class Answers {
        private final int[] bits = new int[FAMILIES * VALUES];

        void forget() {
            for (int i = 0; i < bits.length; i++) {
                bits[i] = 0;
            }
        }

        void note(Town town, int told) {
            for (int f = 0; f < town.families; f++) {
                int at = f * VALUES + town.filling[f];
                if (isWithin(at, 0, bits.length - 1)) {
                    bits[at] |= told;
                }
            }
        }

        int best(Town town) {
            int best = NONE;
            int most = -1;
            for (int f = 0; f < town.families; f++) {
                int settling = town.low[f] < town.high[f] ? settlingOf(town, f) : -1;
                if (settling > most) {
                    most = settling;
                    best = f;
                }
            }
            return best;
        }

        private int settlingOf(Town town, int family) {
            int settling = 0;
            for (int has = town.low[family]; has <= town.high[family]; has++) {
                int at = family * VALUES + has;
                if (isWithin(at, 0, bits.length - 1) && Integer.bitCount(bits[at]) == 1) {
                    settling++;
                }
            }
            return settling;
        }
    }

    /** The bands of the tax, as they were told. */
    private static final class Bands {
        private static final int NO_END = VALUES;

        int told;
        private final int[] from = new int[BANDS];
        private final int[] rate = new int[BANDS];

        void add(int above, int tenths) {
            if (told < BANDS) {
                from[told] = above;
                rate[told] = tenths;
                told++;
            }
        }

        int taken(int has) {
            int tenths = 0;
            for (int i = 0; i < told; i++) {
                int within = Math.min(has, nextFrom(from[i])) - from[i];
                if (within > 0 && !isToldAgain(i)) {
                    tenths += rate[i] * within;
                }
            }
            return tenths / 10;
        }

        private int nextFrom(int above) {
            int next = NO_END;
            for (int i = 0; i < told; i++) {
                if (from[i] > above) {
                    next = Math.min(next, from[i]);
                }
            }
            return next;
        }

        private boolean isToldAgain(int index) {
            for (int later = index + 1; later < told; later++) {
                if (from[later] == from[index]) {
                    return true;
                }
            }
            return false;
        }
    }
}
