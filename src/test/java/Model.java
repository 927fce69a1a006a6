import java.util.ArrayDeque;
import java.util.ArrayList;
import java.util.Arrays;
import java.util.Comparator;
import java.util.HashMap;
import java.util.HashSet;
import java.util.List;
import java.util.Map;
import java.util.Set;
import java.util.TreeMap;
import java.util.TreeSet;

/**
 * The document word by word, with fractions and by trying all, so that it shares no way of reckoning
 * with the program. The answers of both are compared by ModelTest.
 */
final class Model {
    private static final int UNKNOWN = -1;
    private static final int OUTSIDE = -2;
    private static final int STATE = -3;
    private static final int FULL = -4;
    private static final int NONE = -9;

    private record Family(int low, int high, int size, int part) {
    }

    private record Band(int from, int rate) {
    }

    /** Heads that have as much each. */
    private record Heads(Fraction each, int heads) {
    }

    private final List<List<Family>> towns = new ArrayList<>();
    private final List<Band> bands = new ArrayList<>();

    Model() {
        for (int i = 0; i < 4; i++) {
            towns.add(new ArrayList<>());
        }
    }

    // ---- towns

    int family(int town, int low, int high, int size, int part) {
        if (noTown(town) || part < 0 || part > 2) return UNKNOWN;
        if (low < 0 || low > 99 || high < low || high > 99 || size < 1 || size > 9) return OUTSIDE;
        if (towns.get(town).size() == 8) return FULL;
        towns.get(town).add(new Family(low, high, size, part));
        return towns.get(town).size();
    }

    int know(int town, int family, int low, int high) {
        if (noFamily(town, family)) return UNKNOWN;
        if (low < 0 || low > 99 || high < low || high > 99) return OUTSIDE;
        Family old = towns.get(town).get(family);
        towns.get(town).set(family, new Family(low, high, old.size, old.part));
        return 100 * old.low + old.high;
    }

    int clear(int town) {
        if (noTown(town)) return UNKNOWN;
        int had = towns.get(town).size();
        towns.get(town).clear();
        return had;
    }

    int about(int town, int family, int what) {
        if (noFamily(town, family)) return UNKNOWN;
        if (what < 0 || what > 3) return OUTSIDE;
        Family f = towns.get(town).get(family);
        return new int[] {f.low, f.high, f.size, f.part}[what];
    }

    int town(int town, int what) {
        if (noTown(town)) return UNKNOWN;
        if (what < 0 || what > 4) return OUTSIDE;
        List<Family> all = towns.get(town);
        if (what == 0) return all.size();
        if (what == 1) return known(town) ? 1 : 0;
        if (what == 2) return all.stream().mapToInt(Family::size).sum();
        if (what == 3) return all.stream().mapToInt(Family::low).sum();
        return all.stream().mapToInt(Family::high).sum();
    }

    // ---- orders

    int order(int a, int b, int scale, int kind) {
        if (noTown(a) || noTown(b)) return UNKNOWN;
        if (scale < 0 || scale > 2 || kind < 0 || kind > 1) return OUTSIDE;
        if (!ready(a) || !ready(b)) return STATE;
        return told(look(a, has(a), scale), look(b, has(b), scale), kind);
    }

    int where(int a, int b, int scale, int kind, boolean upper) {
        int refused = order(a, b, scale, kind);
        if (refused < 0) return refused;
        List<Heads> first = look(a, has(a), scale);
        List<Heads> second = look(b, has(b), scale);
        for (Fraction p : breaks(first, second)) {
            if (fromBelow(first, p, kind).compareTo(fromBelow(second, p, kind)) > 0) {
                return (int) p.told(upper);
            }
        }
        return NONE;
    }

    long below(int town, int scale, int n, int m, boolean upper) {
        if (noTown(town)) return UNKNOWN;
        if (scale < 0 || scale > 2 || n < 0 || m > 100 || n > m || m < 1) return OUTSIDE;
        if (!ready(town)) return STATE;
        return fromBelow(look(town, has(town), scale), Fraction.of(n, m), 0).told(upper);
    }

    private List<Heads> look(int town, int[] has, int scale) {
        List<Heads> all = new ArrayList<>();
        for (int f = 0; f < has.length; f++) {
            int size = towns.get(town).get(f).size;
            if (scale == 0) all.add(new Heads(Fraction.of(has[f], 1), 1));
            if (scale == 1) all.add(new Heads(Fraction.of(has[f], size), size));
            if (scale == 2) all.add(new Heads(Fraction.of(2L * has[f], size + 1), size));
        }
        all.sort(Comparator.comparing(Heads::each));
        return all;
    }

    private static int headsOf(List<Heads> curve) {
        return curve.stream().mapToInt(Heads::heads).sum();
    }

    private static Fraction held(List<Heads> curve, Fraction share) {
        Fraction left = share.times(headsOf(curve));
        Fraction sum = Fraction.ZERO;
        for (Heads h : curve) {
            Fraction here = Fraction.of(h.heads, 1);
            Fraction part = left.compareTo(here) < 0 ? left : here;
            sum = sum.plus(h.each.times(part));
            left = left.minus(part);
        }
        return sum;
    }

    private static Fraction fromBelow(List<Heads> curve, Fraction share, int kind) {
        if (kind == 1) return held(curve, share).by(headsOf(curve));
        Fraction together = held(curve, Fraction.ONE);
        return together.equals(Fraction.ZERO) ? share : held(curve, share).by(together);
    }

    private static TreeSet<Fraction> breaks(List<Heads> first, List<Heads> second) {
        TreeSet<Fraction> all = new TreeSet<>();
        for (List<Heads> curve : List.of(first, second)) {
            int ended = 0;
            for (Heads h : curve) {
                ended += h.heads;
                all.add(Fraction.of(ended, headsOf(curve)));
            }
        }
        return all;
    }

    private static int told(List<Heads> first, List<Heads> second, int kind) {
        boolean more = false;
        boolean less = false;
        for (Fraction p : breaks(first, second)) {
            int sign = fromBelow(first, p, kind).compareTo(fromBelow(second, p, kind));
            more |= sign > 0;
            less |= sign < 0;
        }
        if (more && less) return 0;
        return more ? 1 : less ? 2 : 3;
    }

    // ---- coins

    int coins(int from, int to) {
        if (noTown(from) || noTown(to)) return UNKNOWN;
        if (!known(from) || !known(to)) return STATE;
        int[] x = has(from);
        int[] y = has(to);
        if (x.length != y.length || Arrays.stream(x).sum() != Arrays.stream(y).sum()) return STATE;
        Arrays.sort(x);
        Arrays.sort(y);
        int byGroups = byGroups(x, y, 0, new ArrayList<>());
        int fewest = byGroups < 0 ? NONE : x.length - byGroups;
        if (x.length <= 4 && Arrays.stream(x).sum() <= 14) {
            int bySteps = bySteps(x, y);
            if (bySteps != fewest) throw new IllegalStateException("coins: " + bySteps + ", " + fewest);
        }
        return fewest;
    }

    /** Coin by coin from the one town to the other one. */
    private static int bySteps(int[] x, int[] y) {
        Map<List<Integer>, Integer> steps = new HashMap<>();
        ArrayDeque<int[]> open = new ArrayDeque<>();
        steps.put(listOf(x), 0);
        open.add(x);
        while (!open.isEmpty()) {
            int[] state = open.remove();
            int done = steps.get(listOf(state));
            if (Arrays.equals(state, y)) return done;
            for (int from = 0; from < x.length; from++) {
                for (int to = 0; to < from; to++) {
                    for (int some = 1; some <= state[from]; some++) {
                        int[] next = state.clone();
                        next[from] -= some;
                        next[to] += some;
                        if (steps.putIfAbsent(listOf(next), done + 1) == null) open.add(next);
                    }
                }
            }
        }
        return NONE;
    }

    private static List<Integer> listOf(int[] row) {
        return Arrays.stream(row).boxed().toList();
    }

    /** All ways to put the places into groups that do with coins among themselves: the most groups. */
    private static int byGroups(int[] x, int[] y, int place, List<List<Integer>> groups) {
        if (place == x.length) {
            for (List<Integer> group : groups) {
                int open = 0;
                for (int p : group) {
                    open += y[p] - x[p];
                    if (open < 0) return -1;
                }
                if (open != 0) return -1;
            }
            return groups.size();
        }
        int most = -1;
        for (int g = 0; g < groups.size(); g++) {
            groups.get(g).add(place);
            most = Math.max(most, byGroups(x, y, place + 1, groups));
            groups.get(g).remove(groups.get(g).size() - 1);
        }
        groups.add(new ArrayList<>(List.of(place)));
        most = Math.max(most, byGroups(x, y, place + 1, groups));
        groups.remove(groups.size() - 1);
        return most;
    }

    int give(int town, int from, int to, int amount) {
        int coin = would(town, from, to, amount);
        if (coin >= 0) {
            int left = about(town, from, 0) - amount;
            int got = about(town, to, 0) + amount;
            know(town, from, left, left);
            know(town, to, got, got);
        }
        return coin;
    }

    int would(int town, int from, int to, int amount) {
        if (noFamily(town, from) || noFamily(town, to)) return UNKNOWN;
        if (amount < 1 || amount > 99) return OUTSIDE;
        if (!known(town) || from == to) return STATE;
        int[] has = has(town);
        has[from] -= amount;
        has[to] += amount;
        if (has[from] < 0 || has[to] > 99) return STATE;
        return has[from] >= has[to] ? 1 : 0;
    }

    // ---- measures

    private static boolean noMeasure(int kind, int k) {
        if (kind < 0 || kind > 5 || k < 0) return true;
        return k > new int[] {0, 0, 8, 99, 99, 0}[kind];
    }

    private static Fraction measured(int[] has, int kind, int k) {
        int[] sorted = has.clone();
        Arrays.sort(sorted);
        int n = has.length;
        int sum = Arrays.stream(has).sum();
        if (kind == 0) return Fraction.of(sorted[n - 1] - sorted[0], 1);
        if (kind == 1) {
            int differ = 0;
            for (int i = 0; i < n; i++) for (int j = i + 1; j < n; j++) differ += sorted[j] - sorted[i];
            return Fraction.of(differ, 1);
        }
        if (kind == 2) {
            int most = 0;
            for (int i = 0; i < Math.min(k, n); i++) most += sorted[n - 1 - i];
            return sum == 0 ? Fraction.ZERO : Fraction.of(most, sum);
        }
        if (kind == 3) return Fraction.of(Arrays.stream(has).filter(h -> h < k).count(), n);
        if (kind == 4) return Fraction.of(Arrays.stream(has).filter(h -> h < k).map(h -> k - h).sum(), n);
        return Fraction.of((long) Arrays.stream(has).map(h -> h * h).sum() * n - (long) sum * sum, 1);
    }

    long measure(int town, int kind, int k, boolean upper) {
        if (noTown(town)) return UNKNOWN;
        if (noMeasure(kind, k)) return OUTSIDE;
        if (!ready(town)) return STATE;
        return measured(has(town), kind, k).told(upper);
    }

    int calls(int a, int b, int kind, int k) {
        if (noTown(a) || noTown(b)) return UNKNOWN;
        if (noMeasure(kind, k)) return OUTSIDE;
        if (!ready(a) || !ready(b)) return STATE;
        int sign = measured(has(a), kind, k).compareTo(measured(has(b), kind, k));
        return sign < 0 ? 1 : sign > 0 ? 2 : 3;
    }

    int minds(int kind, int k) {
        int first = against(kind, k);
        return first == OUTSIDE ? OUTSIDE : first == NONE ? 1 : 0;
    }

    int against(int kind, int k) {
        if (noMeasure(kind, k)) return OUTSIDE;
        for (int a = 0; a < 6; a++) {
            for (int b = 0; b < 6; b++) {
                for (int c = 0; c < 6; c++) {
                    if (isAgainst(new int[] {a, b, c}, kind, k)) return 36 * a + 6 * b + c;
                }
            }
        }
        return NONE;
    }

    private static boolean isAgainst(int[] has, int kind, int k) {
        for (int from = 0; from < 3; from++) {
            for (int to = 0; to < 3; to++) {
                if (has[from] - has[to] < 2) continue;
                int[] then = has.clone();
                then[from]--;
                then[to]++;
                if (measured(then, kind, k).compareTo(measured(has, kind, k)) > 0) return true;
            }
        }
        return false;
    }

    int part(int a, int b, int k) {
        if (noTown(a) || noTown(b)) return UNKNOWN;
        if (k < 0 || k > 8) return OUTSIDE;
        if (!ready(a) || !ready(b)) return STATE;
        for (int i = 0; i < 6; i++) {
            for (int j = i + 1; j < 6; j++) {
                int one = calls(a, b, i, i >= 2 && i <= 4 ? k : 0);
                int other = calls(a, b, j, j >= 2 && j <= 4 ? k : 0);
                if (one + other == 3) return 10 * i + j;
            }
        }
        return NONE;
    }

    // ---- hidden

    long fillings(int town) {
        if (noTown(town)) return UNKNOWN;
        long ways = 1;
        for (Family f : towns.get(town)) ways *= f.high - f.low + 1;
        return ways;
    }

    private List<int[]> allFillings(int town) {
        List<int[]> all = new ArrayList<>();
        all.add(new int[towns.get(town).size()]);
        for (int f = 0; f < towns.get(town).size(); f++) {
            List<int[]> more = new ArrayList<>();
            for (int[] old : all) {
                for (int v = towns.get(town).get(f).low; v <= towns.get(town).get(f).high; v++) {
                    int[] next = old.clone();
                    next[f] = v;
                    more.add(next);
                }
            }
            all = more;
        }
        return all;
    }

    private boolean notAll(int a, int b) {
        if (a == b || towns.get(a).isEmpty() || towns.get(b).isEmpty()) return true;
        return Fraction.of(fillings(a), 1).times(fillings(b)).compareTo(Fraction.of(4096, 1)) > 0;
    }

    int hidden(int a, int b, int scale, int kind, int told) {
        if (noTown(a) || noTown(b)) return UNKNOWN;
        if (scale < 0 || scale > 2 || kind < 0 || kind > 1 || told < 0 || told > 3) return OUTSIDE;
        if (notAll(a, b)) return STATE;
        int times = 0;
        for (int[] x : allFillings(a)) {
            for (int[] y : allFillings(b)) {
                if (told(look(a, x, scale), look(b, y, scale), kind) == told) times++;
            }
        }
        return times;
    }

    int ask(int a, int b, int scale, int kind) {
        if (noTown(a) || noTown(b)) return UNKNOWN;
        if (scale < 0 || scale > 2 || kind < 0 || kind > 1) return OUTSIDE;
        if (notAll(a, b)) return STATE;
        int best = NONE;
        int most = -1;
        for (int f = 0; f < towns.get(a).size(); f++) {
            Family family = towns.get(a).get(f);
            if (family.low == family.high) continue;
            int settling = 0;
            for (int v = family.low; v <= family.high; v++) {
                towns.get(a).set(f, new Family(v, v, family.size, family.part));
                Set<Integer> seen = new HashSet<>();
                for (int[] x : allFillings(a)) {
                    for (int[] y : allFillings(b)) seen.add(told(look(a, x, scale), look(b, y, scale), kind));
                }
                if (seen.size() == 1) settling++;
            }
            towns.get(a).set(f, family);
            if (settling > most) {
                most = settling;
                best = f;
            }
        }
        return best;
    }

    // ---- poor, spread

    int poor(int town, int line, boolean lack) {
        if (noTown(town)) return UNKNOWN;
        if (line < 0 || line > 100) return OUTSIDE;
        if (!known(town)) return STATE;
        return Arrays.stream(has(town)).filter(h -> h < line).map(h -> lack ? line - h : 1).sum();
    }

    int never(int a, int b, int line, int kind) {
        int first = edge(a, b, line, kind);
        return first == NONE ? 1 : first >= 0 ? 0 : first;
    }

    int edge(int a, int b, int line, int kind) {
        if (noTown(a) || noTown(b)) return UNKNOWN;
        if (line < 0 || line > 100 || kind < 0 || kind > 1) return OUTSIDE;
        if (!ready(a) || !ready(b)) return STATE;
        for (int z = 0; z <= line; z++) {
            Fraction here = Fraction.of(poor(a, z, kind == 1), towns.get(a).size());
            Fraction there = Fraction.of(poor(b, z, kind == 1), towns.get(b).size());
            if (here.compareTo(there) > 0) return z;
        }
        return NONE;
    }

    long spread(int town, int part, boolean upper) {
        if (noTown(town) || part < -1 || part > 3) return UNKNOWN;
        if (!ready(town)) return STATE;
        int n = towns.get(town).size();
        List<Fraction> all = new ArrayList<>();
        for (Family f : towns.get(town)) {
            if (part == -1 || part == f.part) all.add(Fraction.of(f.low, 1));
            if (part == 3) all.add(average(town, f.part));
        }
        if (all.isEmpty()) return upper ? 0 : 1;
        return spreadOf(all).times(all.size()).by(n).told(upper);
    }

    private Fraction average(int town, int part) {
        Fraction sum = Fraction.ZERO;
        int some = 0;
        for (Family f : towns.get(town)) {
            if (f.part == part) {
                sum = sum.plus(Fraction.of(f.low, 1));
                some++;
            }
        }
        return sum.by(some);
    }

    private static Fraction spreadOf(List<Fraction> all) {
        Fraction sum = Fraction.ZERO;
        for (Fraction f : all) sum = sum.plus(f);
        Fraction mean = sum.by(all.size());
        Fraction squares = Fraction.ZERO;
        for (Fraction f : all) squares = squares.plus(f.minus(mean).times(f.minus(mean)));
        return squares.by(all.size());
    }

    // ---- years, taxes

    int moved(int a, int b) {
        if (noTown(a) || noTown(b)) return UNKNOWN;
        if (!known(a) || !known(b) || towns.get(a).size() != towns.get(b).size()) return STATE;
        int[] x = has(a);
        int[] y = has(b);
        int pairs = 0;
        for (int i = 0; i < x.length; i++) {
            for (int j = 0; j < x.length; j++) {
                if (x[i] > x[j] && y[i] < y[j]) pairs++;
            }
        }
        return pairs;
    }

    int rose(int a, int b, int family) {
        if (noTown(a) || noTown(b) || noFamily(a, family) || noFamily(b, family)) return UNKNOWN;
        if (!known(a) || !known(b) || towns.get(a).size() != towns.get(b).size()) return STATE;
        int[] x = has(a);
        int[] y = has(b);
        int then = (int) Arrays.stream(x).filter(h -> h < x[family]).count();
        int now = (int) Arrays.stream(y).filter(h -> h < y[family]).count();
        return now - then + 100;
    }

    int band(int from, int rate) {
        if (from < 0 || from > 99 || rate < 0 || rate > 10) return OUTSIDE;
        if (bands.size() == 4) return FULL;
        bands.add(new Band(from, rate));
        return bands.size();
    }

    int unband() {
        int were = bands.size();
        bands.clear();
        return were;
    }

    int tax(int has) {
        if (has < 0 || has > 99) return OUTSIDE;
        TreeMap<Integer, Integer> rates = new TreeMap<>();
        for (Band band : bands) rates.put(band.from, band.rate);
        int tenths = 0;
        for (int coin = 1; coin <= has; coin++) {
            Map.Entry<Integer, Integer> rate = rates.lowerEntry(coin);
            tenths += rate == null ? 0 : rate.getValue();
        }
        return tenths / 10;
    }

    int taxed(int from, int to) {
        if (noTown(from) || noTown(to)) return UNKNOWN;
        if (!known(from) || from == to) return STATE;
        int together = 0;
        clear(to);
        for (Family f : towns.get(from)) {
            int left = f.low - tax(f.low);
            together += tax(f.low);
            towns.get(to).add(new Family(left, left, f.size, f.part));
        }
        return together;
    }

    int rises() {
        for (int has = 2; has <= 99; has++) {
            if (Fraction.of(tax(has), has).compareTo(Fraction.of(tax(has - 1), has - 1)) < 0) return 0;
        }
        return 1;
    }

    int count(int what) {
        if (what < 0 || what > 2) return OUTSIDE;
        if (what == 0) return towns.stream().mapToInt(List::size).sum();
        if (what == 2) return bands.size();
        int ready = 0;
        for (int t = 0; t < 4; t++) ready += ready(t) ? 1 : 0;
        return ready;
    }

    private static boolean noTown(int town) {
        return town < 0 || town > 3;
    }

    private boolean noFamily(int town, int family) {
        return noTown(town) || family < 0 || family >= towns.get(town).size();
    }

    private boolean known(int town) {
        return towns.get(town).stream().allMatch(f -> f.low == f.high);
    }

    private boolean ready(int town) {
        return known(town) && !towns.get(town).isEmpty();
    }

    private int[] has(int town) {
        return towns.get(town).stream().mapToInt(Family::low).toArray();
    }
}
