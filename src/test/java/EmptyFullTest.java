/** Towns without families, bands without any; eight families, four bands, and the call that is one too many. */
final class EmptyFullTest {
    private static final int UNKNOWN = MoreEven.UNKNOWN;
    private static final int STATE = MoreEven.STATE;
    private static final int FULL = MoreEven.FULL;
    private static final int NONE = MoreEven.NONE;

    private final Check check = new Check("EmptyFullTest");

    private EmptyFullTest() {
    }

    public static void main(String[] args) {
        EmptyFullTest test = new EmptyFullTest();
        test.emptyTowns();
        test.oneEmptyTown();
        test.noBands();
        test.theNinthFamily();
        test.fullOrders();
        test.fullCoins();
        test.fullMeasures();
        test.fullHidden();
        test.fullPoorAndSpread();
        test.fullYears();
        test.theFifthBand();
        test.fourBands();
        test.check.end();
    }

    private void due(String what, long got, long want) {
        check.due(what, got, want);
    }

    private static void put(MoreEven x, int town, int... has) {
        for (int h : has) {
            x.family(town, h, h, 1, 0);
        }
    }

    // ---- without any

    private void emptyTowns() {
        MoreEven fresh = new MoreEven();
        withoutFamilies("new", fresh);
        MoreEven cleared = new MoreEven();
        put(cleared, 0, 1, 2, 3);
        cleared.family(1, 4, 9, 5, 2);
        cleared.clear(0);
        cleared.clear(1);
        withoutFamilies("cleared", cleared);
        MoreEven taxed = new MoreEven();
        put(taxed, 0, 1, 2, 3);
        taxed.family(1, 4, 9, 5, 2);
        due("nothing is taken where nobody is", taxed.taxed(2, 0), 0);
        due("into another one", taxed.taxed(3, 1), 0);
        withoutFamilies("taxed of one without families", taxed);
    }

    private void withoutFamilies(String how, MoreEven x) {
        for (int what = 0; what < 5; what++) {
            due(how + ": town " + what, x.town(0, what), what == 1 ? 1 : 0);
        }
        due(how + ": know", x.know(0, 0, 1, 1), UNKNOWN);
        due(how + ": about", x.about(0, 0, 0), UNKNOWN);
        due(how + ": clear", x.clear(0), 0);
        for (int scale = 0; scale < 3; scale++) {
            for (int kind = 0; kind < 2; kind++) {
                due(how + ": order", x.order(0, 1, scale, kind), STATE);
                due(how + ": where", x.where(0, 1, scale, kind, true), STATE);
                due(how + ": hidden", x.hidden(0, 1, scale, kind, 3), STATE);
                due(how + ": ask", x.ask(0, 1, scale, kind), STATE);
            }
            due(how + ": below", x.below(0, scale, 0, 1, true), STATE);
        }
        due(how + ": coins", x.coins(0, 1), 0);
        due(how + ": coins of itself", x.coins(0, 0), 0);
        due(how + ": give", x.give(0, 0, 0, 1), UNKNOWN);
        due(how + ": would", x.would(0, 0, 0, 1), UNKNOWN);
        for (int kind = 0; kind < 6; kind++) {
            due(how + ": measure", x.measure(0, kind, 0, false), STATE);
            due(how + ": calls", x.calls(0, 1, kind, 0), STATE);
        }
        due(how + ": part", x.part(0, 1, 0), STATE);
        due(how + ": fillings", x.fillings(0), 1);
        due(how + ": poor", x.poor(0, 100, false), 0);
        due(how + ": lack", x.poor(0, 100, true), 0);
        due(how + ": never", x.never(0, 1, 100, 0), STATE);
        due(how + ": edge", x.edge(0, 1, 100, 1), STATE);
        for (int part = -1; part < 4; part++) {
            due(how + ": spread", x.spread(0, part, true), STATE);
        }
        due(how + ": moved", x.moved(0, 1), 0);
        due(how + ": rose", x.rose(0, 1, 0), UNKNOWN);
        due(how + ": taxed", x.taxed(0, 1), 0);
        due(how + ": count", x.count(0), 0);
        due(how + ": known ones with some", x.count(1), 0);
        due(how + ": the first family", x.family(0, 1, 1, 1, 0), 1);
    }

    private void oneEmptyTown() {
        for (int empty = 0; empty < 2; empty++) {
            MoreEven x = new MoreEven();
            put(x, 1 - empty, 7);
            due("order", x.order(0, 1, 0, 0), STATE);
            due("where", x.where(0, 1, 0, 0, false), STATE);
            due("coins: not as many", x.coins(0, 1), STATE);
            due("calls", x.calls(0, 1, 0, 0), STATE);
            due("part", x.part(0, 1, 0), STATE);
            due("hidden", x.hidden(0, 1, 0, 0, 3), STATE);
            due("ask", x.ask(0, 1, 0, 0), STATE);
            due("never", x.never(0, 1, 0, 0), STATE);
            due("edge", x.edge(0, 1, 0, 0), STATE);
            due("moved: not as many", x.moved(0, 1), STATE);
            due("count: one is known and has some", x.count(1), 1);
        }
        MoreEven nothing = new MoreEven();
        put(nothing, 0, 0);
        due("coins: as many are not there, though they have the same together", nothing.coins(0, 1), STATE);
    }

    private void noBands() {
        MoreEven x = new MoreEven();
        for (int has = 0; has < 100; has++) {
            due("tax without bands", x.tax(has), 0);
        }
        due("rises without bands", x.rises(), 1);
        due("unband without bands", x.unband(), 0);
        due("count without bands", x.count(2), 0);
        x.family(0, 99, 99, 9, 2);
        due("taxed without bands", x.taxed(0, 1), 0);
        due("all is left", x.about(1, 0, 0), 99);
        x.band(0, 10);
        due("one was there", x.unband(), 1);
        due("tax when they are gone", x.tax(99), 0);
        due("rises when they are gone", x.rises(), 1);
        due("count when they are gone", x.count(2), 0);
        due("taxed when they are gone", x.taxed(0, 1), 0);
    }

    // ---- eight families

    private void theNinthFamily() {
        for (int town = 0; town < 4; town++) {
            MoreEven x = new MoreEven();
            for (int f = 1; f <= 8; f++) {
                due("family " + f, x.family(town, f, 90 + f, f, f % 3), f);
            }
            String before = Sight.of(x);
            due("the ninth", x.family(town, 5, 5, 5, 2), FULL);
            check.holds("the ninth changes nothing", Sight.of(x).equals(before));
            due("another town is not full", x.family((town + 1) % 4, 5, 5, 5, 2), 1);
            due("family 7 is there", x.about(town, 7, 2), 8);
            due("family 8 is not", x.about(town, 8, 2), UNKNOWN);
            due("nor is it to be known", x.know(town, 8, 1, 1), UNKNOWN);
            due("eight were there", x.clear(town), 8);
            due("from the first again", x.family(town, 0, 0, 1, 0), 1);
        }
        MoreEven all = new MoreEven();
        for (int f = 0; f < 32; f++) {
            due("eight in each of four", all.family(f % 4, f, f, 1, 0), f / 4 + 1);
        }
        due("all families", all.count(0), 32);
        due("all towns", all.count(1), 4);
        due("taxed from full to full", all.taxed(0, 1), 0);
        due("it is full as before", all.family(1, 0, 0, 1, 0), FULL);
        all.clear(2);
        due("taxed from full to empty", all.taxed(0, 2), 0);
        due("it is full then", all.family(2, 0, 0, 1, 0), FULL);
    }

    /** Town 0 has all, town 1 nothing, town 2 the half of it in four families, town 3 as much in eight. */
    private static MoreEven fullTowns() {
        MoreEven x = new MoreEven();
        for (int f = 0; f < 8; f++) {
            x.family(0, 99, 99, 9, 2);
            x.family(1, 0, 0, 9, 0);
            int size = f % 2 == 0 ? 9 : 1;
            x.family(2, f < 4 ? 0 : 99, f < 4 ? 0 : 99, size, f / 4);
            x.family(3, 49 + f % 2, 49 + f % 2, 1, 0);
        }
        return x;
    }

    private void fullOrders() {
        MoreEven x = fullTowns();
        due("heads", x.town(0, 2), 72);
        due("together", x.town(0, 3), 792);
        for (int scale = 0; scale < 3; scale++) {
            due("all as even as nothing", x.order(0, 1, scale, 0), 3);
            due("all is more than nothing", x.order(0, 1, scale, 1), 1);
            due("nothing is less than all", x.order(1, 0, scale, 1), 2);
            due("alike is ahead of some", x.order(1, 2, scale, 0), 1);
            due("at the first family of eight", x.where(0, 1, scale, 1, false), 8);
            due("never more", x.where(2, 0, scale, 0, true), NONE);
        }
        due("town 3 is ahead", x.order(2, 3, 0, 0), 2);
        dueShare("by houses half has nothing", x, 0, of(1, 2), of(0, 1));
        dueShare("by houses three fourths have half", x, 0, of(3, 4), of(1, 2));
        // By heads 20 have 0, 18 have 11, 2 have 99; by scale 2 those 18 have 19.8.
        dueShare("by heads three fourths", x, 1, of(3, 4), of(5, 18));
        dueShare("by scale 2 three fourths", x, 2, of(3, 4), of(5, 14));
        dueShare("by heads 99 of 100", x, 1, of(99, 100), of(9, 10));
    }

    private static int[] of(int above, int under) {
        return new int[] {above, under};
    }

    private void dueShare(String what, MoreEven x, int scale, int[] share, int[] want) {
        due(what + " above", x.below(2, scale, share[0], share[1], true), want[0]);
        due(what + " below", x.below(2, scale, share[0], share[1], false), want[1]);
    }

    private void fullCoins() {
        MoreEven x = fullTowns();
        due("four pairs", x.coins(2, 3), 4);
        due("not back", x.coins(3, 2), NONE);
        due("not the same together", x.coins(0, 3), STATE);
        due("the same", x.coins(0, 0), 0);
        due("the last to the first", x.give(2, 7, 0, 49), 1);
        due("three pairs are left", x.coins(2, 3), 3);
        due("all to the first that has 49", x.give(2, 6, 0, 50), 0);
        due("one more than 99", x.would(2, 5, 0, 1), STATE);
        due("family 8", x.give(2, 8, 0, 1), UNKNOWN);
        MoreEven y = new MoreEven();
        put(y, 0, 0, 0, 0, 0, 0, 0, 0, 99);
        put(y, 1, 1, 2, 3, 4, 5, 6, 7, 71);
        due("seven from one", y.coins(0, 1), 7);
        put(y, 2, 0, 0, 0, 0, 0, 0, 1, 98);
        due("one among eight", y.coins(0, 2), 1);
        due("two are due as much, and still seven", y.coins(2, 1), 7);
    }

    private void dueMeasure(MoreEven x, int kind, int k, int above, int under) {
        due("measure " + kind + " " + k + " above", x.measure(2, kind, k, true), above);
        due("measure " + kind + " " + k + " below", x.measure(2, kind, k, false), under);
    }

    private void fullMeasures() {
        MoreEven x = fullTowns();
        dueMeasure(x, 0, 0, 99, 1);
        dueMeasure(x, 1, 0, 1584, 1);
        dueMeasure(x, 2, 0, 0, 1);
        dueMeasure(x, 2, 3, 3, 4);
        dueMeasure(x, 2, 4, 1, 1);
        dueMeasure(x, 2, 8, 1, 1);
        dueMeasure(x, 3, 0, 0, 1);
        dueMeasure(x, 3, 1, 1, 2);
        dueMeasure(x, 3, 99, 1, 2);
        dueMeasure(x, 4, 1, 1, 2);
        dueMeasure(x, 4, 99, 99, 2);
        dueMeasure(x, 5, 0, 156816, 1);
        due("nothing lacks 99 each", x.measure(1, 4, 99, true), 99);
        due("all lacks nothing", x.measure(0, 4, 99, true), 0);
        due("calls 0 without anything", x.calls(0, 1, 2, 8), 2);
        due("part", x.part(2, 1, 0), NONE);
        // Eight with nothing lack more than four, but differ less.
        due("0 and 3", x.part(2, 1, 1), 3);
    }

    private void fullHidden() {
        MoreEven x = new MoreEven();
        for (int f = 0; f < 8; f++) {
            x.family(0, 1, 2, 1, 0);
            x.family(1, f, f < 4 ? f + 1 : f, 1, 0);
            x.family(2, 0, 99, 9, 0);
            x.family(3, 0, 0, 9, 0);
        }
        due("2 to the 8th", x.fillings(0), 256);
        due("2 to the 4th", x.fillings(1), 16);
        due("100 to the 8th", x.fillings(2), 10_000_000_000_000_000L);
        for (int kind = 0; kind < 2; kind++) {
            int pairs = 0;
            for (int told = 0; told < 4; told++) {
                pairs += x.hidden(0, 1, 2, kind, told);
            }
            due("4096 in all", pairs, 4096);
        }
        due("as many of one and one", x.hidden(0, 3, 0, 1, 1), 256);
        due("of which the least has no less", x.ask(0, 3, 0, 1), 0);
        x.know(1, 7, 7, 8);
        due("8192", x.hidden(0, 1, 0, 0, 0), STATE);
        due("ask likewise", x.ask(0, 1, 0, 0), STATE);
        due("far more", x.hidden(2, 3, 0, 0, 0), STATE);
        x.clear(3);
        put(x, 3, 0, 0, 0, 0, 0, 0, 0);
        x.family(3, 97, 99, 1, 0);
        x.clear(0);
        put(x, 0, 98);
        due("the eighth is asked", x.ask(3, 0, 0, 1), 7);
    }

    private void fullPoorAndSpread() {
        MoreEven x = fullTowns();
        due("all are poor", x.poor(0, 100, false), 8);
        due("by one each", x.poor(0, 100, true), 8);
        due("none is below 99", x.poor(0, 99, false), 0);
        due("all lack all", x.poor(1, 100, true), 800);
        due("never", x.never(0, 1, 100, 0), 1);
        due("edge", x.edge(1, 0, 100, 0), 1);
        due("edge by lack", x.edge(1, 0, 100, 1), 1);
        due("spread above", x.spread(2, -1, true), 9801);
        due("spread below", x.spread(2, -1, false), 4);
        due("within 0", x.spread(2, 0, true), 0);
        due("within 1", x.spread(2, 1, true), 0);
        due("within 2, which has none", x.spread(2, 2, true), 0);
        due("within 2, which has none, below", x.spread(2, 2, false), 1);
        due("between", x.spread(2, 3, true), 9801);
        due("between, below", x.spread(2, 3, false), 4);
        due("all alike", x.spread(0, -1, false), 1);
    }

    private void fullYears() {
        MoreEven x = new MoreEven();
        put(x, 0, 1, 2, 3, 4, 5, 6, 7, 8);
        put(x, 1, 8, 7, 6, 5, 4, 3, 2, 1);
        due("all pairs", x.moved(0, 1), 28);
        due("over all others", x.rose(0, 1, 0), 107);
        due("under all others", x.rose(0, 1, 7), 93);
        due("family 8", x.rose(0, 1, 8), UNKNOWN);
        MoreEven full = fullTowns();
        full.band(0, 10);
        due("all is taken of eight", full.taxed(0, 3), 792);
        due("nothing is left", full.town(3, 4), 0);
        due("of eight", full.town(3, 0), 8);
        due("heads as they are", full.town(3, 2), 72);
        due("the last in its part", full.about(3, 7, 3), 2);
    }

    // ---- four bands

    private void theFifthBand() {
        MoreEven x = new MoreEven();
        for (int b = 1; b <= 4; b++) {
            due("band " + b, x.band(99, b), b);
        }
        String before = Sight.of(x);
        due("the fifth", x.band(0, 10), FULL);
        due("the fifth, like the others", x.band(99, 10), FULL);
        check.holds("the fifth changes nothing", Sight.of(x).equals(before));
        due("four were there", x.unband(), 4);
        for (int b = 1; b <= 4; b++) {
            due("band " + b + " again", x.band(10 * b, 10), b);
        }
        due("the fifth again", x.band(50, 10), FULL);
        due("taken above 10", x.tax(99), 89);
    }

    private void fourBands() {
        MoreEven x = new MoreEven();
        x.band(75, 4);
        x.band(25, 2);
        x.band(50, 3);
        x.band(0, 1);
        // 2.5, then 5, then 7.5, then a tenth of 4 each.
        int[][] due = {{0, 0}, {9, 0}, {10, 1}, {25, 2}, {27, 2}, {28, 3}, {50, 7}, {51, 7}, {52, 8}, {75, 15},
            {76, 15}, {77, 15}, {78, 16}, {99, 24}};
        for (int[] row : due) {
            due("tax of " + row[0], x.tax(row[0]), row[1]);
        }
        x.unband();
        x.band(20, 10);
        x.band(20, 0);
        x.band(20, 9);
        x.band(20, 1);
        due("four alike: the last alone", x.tax(99), 7);
        due("but four were told", x.count(2), 4);
        x.unband();
        x.band(20, 1);
        x.band(40, 0);
        x.band(20, 10);
        x.band(40, 10);
        due("two and two alike", x.tax(99), 79);
    }
}
