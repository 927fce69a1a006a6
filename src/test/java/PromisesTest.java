/** For each promise: ordinary inputs, the edges that the document names, and wrong inputs. */
final class PromisesTest {
    private static final int UNKNOWN = MoreEven.UNKNOWN;
    private static final int OUTSIDE = MoreEven.OUTSIDE;
    private static final int STATE = MoreEven.STATE;
    private static final int FULL = MoreEven.FULL;
    private static final int NONE = MoreEven.NONE;
    private static final int LEAST = Integer.MIN_VALUE;
    private static final int GREATEST = Integer.MAX_VALUE;

    private final Check check = new Check("PromisesTest");
    private int promise;

    private PromisesTest() {
    }

    public static void main(String[] args) {
        PromisesTest test = new PromisesTest();
        test.towns();
        test.orders();
        test.coinsAndGifts();
        test.measures();
        test.hiddenOnes();
        test.poorAndSpread();
        test.yearsAndTaxes();
        test.check.end();
    }

    private void due(String call, long got, long want) {
        check.due("promise " + promise + ": " + call, got, want);
    }

    private void due(String call, long above, long under, long wantAbove, long wantUnder) {
        due(call + " above", above, wantAbove);
        due(call + " below", under, wantUnder);
    }

    /** Known families of size 1 and part 0. */
    private static void put(MoreEven x, int town, int... has) {
        for (int h : has) {
            x.family(town, h, h, 1, 0);
        }
    }

    /** Known families, told as what each has, its size and its part. */
    private static void putWhole(MoreEven x, int town, int[]... families) {
        for (int[] f : families) {
            x.family(town, f[0], f[0], f[1], f[2]);
        }
    }

    private static int[] of(int... numbers) {
        return numbers;
    }

    // ---- towns

    private void towns() {
        promise1();
        promise2();
        promise3();
        promise4();
        promise5();
        promise6();
    }

    private void promise1() {
        promise = 1;
        MoreEven x = new MoreEven();
        for (int t = 0; t < 4; t++) {
            due("families", x.town(t, 0), 0);
            due("a town without families is known", x.town(t, 1), 1);
        }
        for (int what = 0; what < 3; what++) {
            due("count", x.count(what), 0);
        }
        due("unband()", x.unband(), 0);
        MoreEven y = new MoreEven();
        put(x, 0, 5);
        due("objects are apart", y.town(0, 0), 0);
    }

    private void promise2() {
        promise = 2;
        MoreEven x = new MoreEven();
        due("the first", x.family(0, 0, 0, 1, 0), 1);
        due("the second", x.family(0, 0, 99, 9, 2), 2);
        due("in another town", x.family(3, 99, 99, 9, 1), 1);
        due("town -1", x.family(-1, 0, 0, 1, 0), UNKNOWN);
        due("town 4", x.family(4, 0, 0, 1, 0), UNKNOWN);
        due("town least", x.family(LEAST, 0, 0, 1, 0), UNKNOWN);
        due("part -1", x.family(0, 0, 0, 1, -1), UNKNOWN);
        due("part 3", x.family(0, 0, 0, 1, 3), UNKNOWN);
        due("low -1", x.family(0, -1, 0, 1, 0), OUTSIDE);
        due("low 100", x.family(0, 100, 100, 1, 0), OUTSIDE);
        due("high 100", x.family(0, 0, 100, 1, 0), OUTSIDE);
        due("high less than low", x.family(0, 7, 6, 1, 0), OUTSIDE);
        due("size 0", x.family(0, 0, 0, 0, 0), OUTSIDE);
        due("size 10", x.family(0, 0, 0, 10, 0), OUTSIDE);
        due("a part that is unknown comes first", x.family(0, -1, 0, 0, 3), UNKNOWN);
        due("nothing was changed", x.count(0), 3);
        put(x, 1, 1, 2, 3, 4, 5, 6, 7);
        due("the eighth", x.family(1, 8, 8, 1, 0), 8);
        due("the ninth", x.family(1, 9, 9, 1, 0), FULL);
        due("outside comes before full", x.family(1, 9, 9, 0, 0), OUTSIDE);
        due("unknown comes before full", x.family(1, 9, 9, 1, 5), UNKNOWN);
        due("it stays at eight", x.town(1, 0), 8);
        due("what they have stays", x.town(1, 3), 36);
    }

    private void promise3() {
        promise = 3;
        MoreEven x = new MoreEven();
        x.family(2, 3, 14, 4, 1);
        x.family(2, 50, 50, 1, 0);
        due("as it was", x.know(2, 0, 5, 5), 314);
        due("as it was then", x.know(2, 0, 0, 99), 505);
        due("back", x.know(2, 0, 99, 99), 99);
        due("size stays", x.about(2, 0, 2), 4);
        due("part stays", x.about(2, 0, 3), 1);
        due("the other one stays", x.know(2, 1, 50, 50), 5050);
        due("town", x.know(4, 0, 0, 0), UNKNOWN);
        due("family 2", x.know(2, 2, 0, 0), UNKNOWN);
        due("family -1", x.know(2, -1, 0, 0), UNKNOWN);
        due("family of an empty town", x.know(0, 0, 0, 0), UNKNOWN);
        due("unknown comes first", x.know(2, 2, 1, 0), UNKNOWN);
        due("low", x.know(2, 0, -1, 5), OUTSIDE);
        due("high", x.know(2, 0, 5, 100), OUTSIDE);
        due("high less than low", x.know(2, 0, 5, 4), OUTSIDE);
        due("nothing was changed", x.know(2, 0, 1, 1), 9999);
    }

    private void promise4() {
        promise = 4;
        MoreEven x = new MoreEven();
        put(x, 1, 4, 5, 6);
        put(x, 2, 7);
        due("town -1", x.clear(-1), UNKNOWN);
        due("town 4", x.clear(4), UNKNOWN);
        due("three were there", x.clear(1), 3);
        due("none are there", x.clear(1), 0);
        due("no families", x.town(1, 0), 0);
        due("the other town stays", x.town(2, 0), 1);
        due("from 0 again", x.family(1, 9, 9, 2, 2), 1);
        due("with what was told now", x.about(1, 0, 2), 2);
    }

    private void promise5() {
        promise = 5;
        MoreEven x = new MoreEven();
        x.family(3, 12, 34, 5, 2);
        due("low", x.about(3, 0, 0), 12);
        due("high", x.about(3, 0, 1), 34);
        due("size", x.about(3, 0, 2), 5);
        due("part", x.about(3, 0, 3), 2);
        due("what 4", x.about(3, 0, 4), OUTSIDE);
        due("what -1", x.about(3, 0, -1), OUTSIDE);
        due("town", x.about(4, 0, 0), UNKNOWN);
        due("family", x.about(3, 1, 0), UNKNOWN);
        due("family greatest", x.about(3, GREATEST, 0), UNKNOWN);
        due("unknown comes first", x.about(3, 1, 4), UNKNOWN);
    }

    private void promise6() {
        promise = 6;
        MoreEven x = new MoreEven();
        x.family(0, 2, 9, 3, 0);
        x.family(0, 4, 4, 9, 0);
        due("families", x.town(0, 0), 2);
        due("not known", x.town(0, 1), 0);
        due("heads", x.town(0, 2), 12);
        due("least", x.town(0, 3), 6);
        due("most", x.town(0, 4), 13);
        x.know(0, 0, 9, 9);
        due("known", x.town(0, 1), 1);
        due("least of an empty town", x.town(1, 3), 0);
        due("what 5", x.town(0, 5), OUTSIDE);
        due("what -1", x.town(0, -1), OUTSIDE);
        due("town", x.town(4, 5), UNKNOWN);
    }

    // ---- orders

    private void orders() {
        promise7();
        promise7Scales();
        promise8();
        promise9();
    }

    private void promise7() {
        promise = 7;
        MoreEven x = new MoreEven();
        put(x, 0, 1, 9);
        put(x, 1, 5, 5);
        put(x, 2, 10, 2, 18, 10);
        due("even", x.order(0, 1, 0, 0), 2);
        due("the other way", x.order(1, 0, 0, 0), 1);
        due("by sum", x.order(1, 0, 0, 1), 1);
        due("the same town", x.order(0, 0, 0, 0), 3);
        // Long 1/10, 1 against 2/40, 12/40, 22/40, 1: at 1/4 both have 1/20, at 1/2 1/10 and 12/40.
        due("more families", x.order(0, 2, 0, 0), 2);
        due("tall the richer town is ahead", x.order(2, 0, 0, 1), 1);
        due("town", x.order(4, 0, 3, 0), UNKNOWN);
        due("second town", x.order(0, -1, 3, 0), UNKNOWN);
        due("scale 3", x.order(0, 3, 3, 0), OUTSIDE);
        due("scale -1", x.order(0, 3, -1, 0), OUTSIDE);
        due("kind 2", x.order(0, 3, 0, 2), OUTSIDE);
        due("kind -1", x.order(0, 3, 0, -1), OUTSIDE);
        due("no families", x.order(0, 3, 0, 0), STATE);
        due("no families in the first", x.order(3, 0, 0, 0), STATE);
        x.family(3, 1, 2, 1, 0);
        due("not known", x.order(0, 3, 0, 0), STATE);
        due("not known in the first", x.order(3, 0, 0, 0), STATE);
        x.clear(3);
        put(x, 3, 2, 2, 9, 3);
        x.clear(2);
        put(x, 2, 1, 4, 4, 7);
        // 2, 4, 7, 16 against 1, 5, 9, 16: each has more somewhere.
        due("neither", x.order(3, 2, 0, 0), 0);
        x.clear(2);
        put(x, 2, 9, 3, 2, 2);
        due("told in another order", x.order(3, 2, 0, 0), 3);
        x.clear(2);
        put(x, 2, 3, 2, 2, 9, 2, 2, 3, 9);
        due("twice as many alike", x.order(3, 2, 0, 1), 3);
        x.clear(2);
        put(x, 2, 4, 4, 18, 6);
        due("twice as much each is as even", x.order(3, 2, 0, 0), 3);
        due("but not by sum", x.order(3, 2, 0, 1), 2);
    }

    private void promise7Scales() {
        MoreEven x = new MoreEven();
        putWhole(x, 0, of(4, 1, 0), of(12, 3, 0));
        putWhole(x, 1, of(8, 2, 0), of(8, 2, 0));
        due("by houses", x.order(0, 1, 0, 0), 2);
        due("by heads all have 4", x.order(0, 1, 1, 0), 3);
        due("by heads and sum", x.order(0, 1, 1, 1), 3);
        // Scale 2: 4 and three times 6 against four times 16/3.
        due("by scale 2", x.order(0, 1, 2, 0), 2);
        // Tall: 1/4 of 4 is less than of 16/3, but 22/4 is more than 64/12.
        due("by scale 2 and sum", x.order(0, 1, 2, 1), 0);
        MoreEven y = new MoreEven();
        putWhole(y, 0, of(0, 3, 0), of(0, 1, 0));
        putWhole(y, 1, of(7, 1, 0), of(14, 2, 0));
        putWhole(y, 2, of(7, 1, 0), of(7, 2, 0));
        due("without anything as if all had one", y.order(0, 1, 1, 0), 3);
        due("which is more even than others", y.order(0, 2, 1, 0), 1);
        due("but tall it has nothing", y.order(0, 2, 1, 1), 2);
        due("both without anything", y.order(0, 0, 2, 1), 3);
    }

    private void promise8() {
        promise = 8;
        MoreEven x = new MoreEven();
        put(x, 0, 1, 4, 10);
        put(x, 1, 3, 5, 7);
        due("least break", x.where(1, 0, 0, 0, true), x.where(1, 0, 0, 0, false), 1, 3);
        due("there is none", x.where(0, 1, 0, 0, true), x.where(0, 1, 0, 0, false), NONE, NONE);
        due("not of itself", x.where(0, 0, 1, 1, true), NONE);
        put(x, 2, 3, 4);
        // Long 1/15, 5/15, 1 at thirds against 3/7, 1 at halves.
        due("a break of the other town", x.where(0, 2, 0, 0, true), NONE);
        due("the break is told in least terms", x.where(2, 0, 0, 0, true), x.where(2, 0, 0, 0, false), 1, 3);
        // Tall 1/3, 5/3, 15/3 against 3/2, 7/2: more only at 1.
        due("1 is a break", x.where(0, 2, 0, 1, true), x.where(0, 2, 0, 1, false), 1, 1);
        MoreEven y = new MoreEven();
        putWhole(y, 0, of(10, 1, 0), of(10, 1, 0), of(10, 2, 0), of(20, 4, 0));
        putWhole(y, 1, of(1, 1, 0), of(9, 1, 0));
        // By heads 5 six times and then 10 twice, families 2, 3, 0, 1 in order: 2/8 is the first break.
        due("like ones: the lesser number first", y.where(0, 1, 1, 0, true), y.where(0, 1, 1, 0, false), 1, 4);
        due("town", y.where(0, 4, 3, 0, true), UNKNOWN);
        due("likewise below", y.where(0, 4, 3, 0, false), UNKNOWN);
        due("scale", y.where(0, 3, 3, 0, true), OUTSIDE);
        due("kind", y.where(0, 3, 0, 2, false), OUTSIDE);
        due("state", y.where(0, 3, 0, 1, true), STATE);
        y.family(3, 0, 1, 1, 0);
        due("not known", y.where(3, 0, 0, 1, false), STATE);
    }

    private void promise9() {
        promise = 9;
        MoreEven x = new MoreEven();
        putWhole(x, 0, of(10, 5, 0), of(1, 1, 0), of(4, 2, 0));
        due("half", x.below(0, 0, 1, 2, true), x.below(0, 0, 1, 2, false), 1, 5);
        due("half by heads", x.below(0, 1, 1, 2, true), x.below(0, 1, 1, 2, false), 7, 15);
        due("nothing", x.below(0, 2, 0, 100, true), x.below(0, 2, 0, 100, false), 0, 1);
        due("all", x.below(0, 2, 100, 100, true), x.below(0, 2, 100, 100, false), 1, 1);
        // Scale 2: 1, then twice 8/3, then five times 10/3: 23 in all, 1/8 has 1.
        due("scale 2", x.below(0, 2, 1, 8, true), x.below(0, 2, 1, 8, false), 1, 23);
        put(x, 1, 0, 0);
        due("as if all had one", x.below(1, 0, 3, 7, true), x.below(1, 0, 3, 7, false), 3, 7);
        due("town", x.below(4, 3, 0, 0, true), UNKNOWN);
        due("scale", x.below(2, 3, 0, 1, true), OUTSIDE);
        due("n -1", x.below(2, 0, -1, 1, true), OUTSIDE);
        due("n more than m", x.below(2, 0, 3, 2, true), OUTSIDE);
        due("m 0", x.below(2, 0, 0, 0, true), OUTSIDE);
        due("m 101", x.below(2, 0, 5, 101, false), OUTSIDE);
        due("n 101", x.below(2, 0, 101, 101, false), OUTSIDE);
        due("no families", x.below(2, 0, 0, 1, true), STATE);
        x.family(2, 0, 1, 1, 0);
        due("not known", x.below(2, 0, 0, 1, false), STATE);
    }

    // ---- coins

    private void coinsAndGifts() {
        promise10();
        promise11();
        promise12();
    }

    private void promise10() {
        promise = 10;
        MoreEven x = new MoreEven();
        due("without families", x.coins(0, 1), 0);
        due("town", x.coins(0, 4), UNKNOWN);
        due("the other town", x.coins(-1, 0), UNKNOWN);
        put(x, 0, 20, 9, 2, 9);
        put(x, 1, 5, 16, 6, 13);
        due("two pairs of places", x.coins(0, 1), 2);
        due("never to more uneven", x.coins(1, 0), NONE);
        put(x, 2, 9, 2, 20, 9);
        due("the same in another order", x.coins(0, 2), 0);
        due("of itself", x.coins(0, 0), 0);
        x.clear(2);
        put(x, 2, 10, 10, 10, 10);
        due("two from above to one", x.coins(0, 2), 3);
        x.give(2, 0, 1, 1);
        x.know(2, 1, 10, 10);
        due("not the same together", x.coins(0, 2), STATE);
        x.clear(2);
        put(x, 2, 20, 20);
        due("not as many", x.coins(0, 2), STATE);
        x.clear(2);
        put(x, 2, 9, 2, 20);
        x.family(2, 9, 10, 1, 0);
        due("not known", x.coins(0, 2), STATE);
        due("the first not known", x.coins(2, 0), STATE);
        MoreEven y = new MoreEven();
        put(y, 0, 0, 0, 0, 0, 10, 20, 30, 40);
        put(y, 1, 10, 10, 10, 10, 15, 15, 15, 15);
        // Due +10 +10 +10 +10 +5 -5 -15 -25: two groups at most (+5 with -5, or +10 +5 with -15, and the rest).
        due("groups that do alone", y.coins(0, 1), 6);
    }

    private void promise11() {
        promise = 11;
        MoreEven x = new MoreEven();
        put(x, 0, 1, 4, 10);
        due("a coin", x.give(0, 2, 0, 3), 1);
        due("it has less", x.about(0, 2, 0), 7);
        due("high likewise", x.about(0, 2, 1), 7);
        due("the other one more", x.about(0, 0, 1), 4);
        due("it stays known", x.town(0, 1), 1);
        due("as much as the other one is a coin", x.give(0, 2, 1, 1), 1);
        due("less is none", x.give(0, 2, 1, 1), 0);
        due("but it is given", x.about(0, 2, 0), 5);
        due("all of it", x.give(0, 2, 1, 5), 0);
        due("nothing is left", x.about(0, 2, 0), 0);
        refusedGifts(x, false);
        due("nothing was changed", x.town(0, 3), 15);
        put(x, 1, 99, 99);
        due("to 99 and no more", x.give(1, 0, 1, 1), STATE);
        x.know(1, 1, 98, 98);
        due("99 is fine", x.give(1, 0, 1, 1), 0);
        due("99", x.about(1, 1, 0), 99);
    }

    private void promise12() {
        promise = 12;
        MoreEven x = new MoreEven();
        put(x, 0, 4, 11, 0);
        due("a coin", x.would(0, 1, 0, 3), 1);
        due("none", x.would(0, 1, 0, 4), 0);
        due("nothing is given", x.about(0, 1, 0), 11);
        due("to nobody", x.about(0, 0, 0), 4);
        refusedGifts(x, true);
        put(x, 1, 99, 99);
        due("to 99 and no more", x.would(1, 0, 1, 1), STATE);
    }

    /** Town 0 has three families, the last of them nothing. */
    private void refusedGifts(MoreEven x, boolean would) {
        due("town", gift(x, would, of(4, 0, 1, 0)), UNKNOWN);
        due("from", gift(x, would, of(0, 3, 1, 0)), UNKNOWN);
        due("to", gift(x, would, of(0, 0, -1, 0)), UNKNOWN);
        due("amount 0", gift(x, would, of(0, 0, 0, 0)), OUTSIDE);
        due("amount 100", gift(x, would, of(0, 0, 1, 100)), OUTSIDE);
        due("amount 99", gift(x, would, of(0, 0, 1, 99)), STATE);
        due("both are one", gift(x, would, of(0, 0, 0, 1)), STATE);
        due("it has not so much", gift(x, would, of(0, 2, 0, 1)), STATE);
        x.family(0, 0, 1, 1, 0);
        due("not known", gift(x, would, of(0, 0, 1, 1)), STATE);
        x.know(0, 3, 0, 0);
    }

    private static int gift(MoreEven x, boolean would, int[] told) {
        return would ? x.would(told[0], told[1], told[2], told[3]) : x.give(told[0], told[1], told[2], told[3]);
    }

    // ---- measures

    private void measures() {
        promise13();
        promise14();
        promise15And16();
        promise17();
    }

    private void dueMeasure(MoreEven x, int kind, int k, long above, long under) {
        due("measure " + kind + " " + k, x.measure(0, kind, k, true), x.measure(0, kind, k, false), above, under);
    }

    private void promise13() {
        promise = 13;
        MoreEven x = new MoreEven();
        put(x, 0, 4, 10, 1);
        dueMeasure(x, 0, 0, 9, 1);
        dueMeasure(x, 1, 0, 18, 1);
        dueMeasure(x, 2, 0, 0, 1);
        dueMeasure(x, 2, 1, 2, 3);
        dueMeasure(x, 2, 2, 14, 15);
        dueMeasure(x, 2, 3, 1, 1);
        dueMeasure(x, 2, 8, 1, 1);
        dueMeasure(x, 3, 0, 0, 1);
        dueMeasure(x, 3, 4, 1, 3);
        dueMeasure(x, 3, 5, 2, 3);
        dueMeasure(x, 3, 99, 1, 1);
        dueMeasure(x, 4, 4, 1, 1);
        dueMeasure(x, 4, 5, 5, 3);
        dueMeasure(x, 4, 99, 94, 1);
        dueMeasure(x, 5, 0, 126, 1);
        x.clear(0);
        put(x, 0, 0, 0);
        dueMeasure(x, 2, 1, 0, 1);
        dueMeasure(x, 4, 0, 0, 1);
        x.clear(0);
        put(x, 0, 99, 99, 99, 99, 0, 0, 0, 0);
        dueMeasure(x, 5, 0, 156816, 1);
        due("town", x.measure(-1, 6, 0, true), UNKNOWN);
        due("kind 6", x.measure(1, 6, 0, true), OUTSIDE);
        due("kind -1", x.measure(1, -1, 0, false), OUTSIDE);
        for (int kind = 0; kind < 6; kind++) {
            int most = new int[] {0, 0, 8, 99, 99, 0}[kind];
            due("k -1 of " + kind, x.measure(1, kind, -1, true), OUTSIDE);
            due("k too great of " + kind, x.measure(1, kind, most + 1, true), OUTSIDE);
            due("no families, " + kind, x.measure(1, kind, most, true), STATE);
        }
        x.family(1, 1, 2, 1, 0);
        due("not known", x.measure(1, 0, 0, false), STATE);
    }

    private void promise14() {
        promise = 14;
        MoreEven x = new MoreEven();
        put(x, 0, 4, 10, 1);
        put(x, 1, 5, 5);
        due("the second", x.calls(0, 1, 0, 0), 2);
        due("the first", x.calls(1, 0, 1, 0), 1);
        due("both alike", x.calls(0, 1, 3, 1), 3);
        due("2/3 against 1/2", x.calls(0, 1, 2, 1), 2);
        due("2/3 against 1", x.calls(0, 1, 3, 6), 1);
        due("5/3 against 0", x.calls(0, 1, 4, 5), 2);
        put(x, 2, 0, 0, 0, 0, 0, 0);
        due("0 without anything", x.calls(2, 1, 2, 1), 1);
        due("by measure 5", x.calls(2, 1, 5, 0), 3);
        due("town", x.calls(0, 4, 6, 0), UNKNOWN);
        due("kind", x.calls(0, 3, 6, 0), OUTSIDE);
        due("k", x.calls(0, 3, 5, 1), OUTSIDE);
        due("no families", x.calls(0, 3, 5, 0), STATE);
        due("no families in the first", x.calls(3, 0, 5, 0), STATE);
        x.family(3, 1, 2, 1, 0);
        due("not known", x.calls(0, 3, 5, 0), STATE);
    }

    private void promise15And16() {
        MoreEven x = new MoreEven();
        for (int kind = 0; kind < 6; kind++) {
            int most = new int[] {0, 0, 8, 99, 99, 0}[kind];
            for (int k = 0; k <= most; k++) {
                boolean minds = kind != 3 || k < 2 || k > 5;
                promise = 15;
                due("minds " + kind + " " + k, x.minds(kind, k), minds ? 1 : 0);
                promise = 16;
                due("against " + kind + " " + k, x.against(kind, k), minds ? NONE : k);
            }
            promise = 15;
            due("k too great", x.minds(kind, most + 1), OUTSIDE);
            due("k -1", x.minds(kind, -1), OUTSIDE);
            promise = 16;
            due("k too great", x.against(kind, most + 1), OUTSIDE);
            due("k -1", x.against(kind, -1), OUTSIDE);
        }
        promise = 15;
        due("kind 6", x.minds(6, 0), OUTSIDE);
        due("kind -1", x.minds(-1, 0), OUTSIDE);
        promise = 16;
        due("kind 6", x.against(6, 0), OUTSIDE);
        due("kind -1", x.against(-1, 0), OUTSIDE);
    }

    private void promise17() {
        promise = 17;
        MoreEven x = new MoreEven();
        put(x, 0, 2, 2, 8);
        put(x, 1, 1, 5, 6);
        // Greatest less least 6 and 5, pairs 12 and 10, but the two that have most 10/12 and 11/12.
        due("0 and 2", x.part(0, 1, 2), 2);
        due("the other way", x.part(1, 0, 2), 2);
        due("all alike or one way", x.part(0, 1, 0), NONE);
        due("the one that has most 8/12 and 6/12", x.part(0, 1, 1), NONE);
        due("of itself", x.part(0, 0, 3), NONE);
        x.clear(0);
        x.clear(1);
        put(x, 0, 2, 2, 2, 10);
        put(x, 1, 1, 5, 5, 5);
        // 0 to 2 and 5 are for the second, but less than 2 are none and one.
        due("0 and 3", x.part(0, 1, 2), 3);
        x.clear(0);
        x.clear(1);
        put(x, 0, 0, 5, 5, 10);
        put(x, 1, 1, 1, 9, 9);
        // Greatest less least 10 and 8; pairs 30 and 32; the richest 1/2 and 9/20.
        due("0 and 1", x.part(0, 1, 1), 1);
        x.clear(0);
        x.clear(1);
        put(x, 0, 3, 3, 3);
        put(x, 1, 9, 9, 9, 9);
        due("2 is for the second, all others call both alike", x.part(0, 1, 3), NONE);
        due("3 is for the second, all others call both alike", x.part(0, 1, 4), NONE);
        x.clear(0);
        put(x, 0, 3, 3);
        // The two of 3 have all of it, the three that have most of 9 only 3/4; less than 4: all against none.
        due("2 calls the second and so does 3", x.part(0, 1, 3), NONE);
        x.clear(1);
        put(x, 1, 2, 2, 2, 2);
        // The three that have most 1 and 3/4, but less than 3 are none and all.
        due("2 and 3", x.part(0, 1, 3), 23);
        due("not with k 2", x.part(0, 1, 2), NONE);
        due("town", x.part(0, 4, 9), UNKNOWN);
        due("k 9", x.part(0, 3, 9), OUTSIDE);
        due("k -1", x.part(0, 3, -1), OUTSIDE);
        due("no families", x.part(0, 3, 8), STATE);
        x.family(3, 1, 2, 1, 0);
        due("not known", x.part(3, 0, 0), STATE);
    }

    // ---- hidden

    private void hiddenOnes() {
        promise18();
        promise19();
        promise20();
    }

    private void promise18() {
        promise = 18;
        MoreEven x = new MoreEven();
        due("town", x.fillings(4), UNKNOWN);
        due("town -1", x.fillings(-1), UNKNOWN);
        due("without families", x.fillings(0), 1);
        put(x, 0, 5, 6);
        due("known", x.fillings(0), 1);
        x.know(0, 0, 5, 9);
        x.know(0, 1, 6, 7);
        due("5 times 2", x.fillings(0), 10);
        for (int f = 0; f < 8; f++) {
            x.family(1, 0, 99, 1, 0);
        }
        due("the most", x.fillings(1), 10_000_000_000_000_000L);
    }

    private void dueHidden(MoreEven x, int scale, int kind, int... want) {
        for (int told = 0; told < 4; told++) {
            due("hidden by " + scale + " " + kind + " told " + told, x.hidden(0, 1, scale, kind, told), want[told]);
        }
    }

    private void promise19() {
        promise = 19;
        MoreEven x = new MoreEven();
        put(x, 0, 4);
        x.family(0, 1, 8, 1, 0);
        put(x, 1, 2, 3);
        // Long, the poorer has 2/5: 4 and 3 to 6 have no less (6: the same), 1, 2, 7, 8 less.
        dueHidden(x, 0, 0, 0, 3, 4, 1);
        // Tall, 1 and 5 together are behind 2 and 5; 2 and 6, and what is more, are ahead.
        dueHidden(x, 0, 1, 0, 7, 1, 0);
        due("known ones are one pair", x.hidden(1, 0, 0, 1, 2), 7);
        due("town", x.hidden(4, 0, 3, 0, 0), UNKNOWN);
        due("scale", x.hidden(0, 0, 3, 0, 0), OUTSIDE);
        due("kind", x.hidden(0, 0, 0, 2, 0), OUTSIDE);
        due("told 4", x.hidden(0, 0, 0, 0, 4), OUTSIDE);
        due("told -1", x.hidden(0, 0, 0, 0, -1), OUTSIDE);
        due("both are one", x.hidden(1, 1, 0, 0, 3), STATE);
        due("no families", x.hidden(0, 3, 0, 0, 0), STATE);
        due("no families in the first", x.hidden(3, 0, 0, 0, 0), STATE);
        manyPairs();
    }

    private void manyPairs() {
        MoreEven x = new MoreEven();
        x.family(0, 1, 64, 1, 0);
        x.family(1, 1, 64, 2, 0);
        due("4096 pairs", x.hidden(0, 1, 0, 0, 3), 4096);
        due("more by sum", x.hidden(0, 1, 0, 1, 1), 2016);
        due("less by sum", x.hidden(0, 1, 0, 1, 2), 2016);
        due("alike by sum", x.hidden(0, 1, 0, 1, 3), 64);
        due("by heads half", x.hidden(0, 1, 1, 1, 3), 32);
        x.family(0, 1, 64, 1, 0);
        x.know(1, 0, 5, 5);
        due("4096 pairs of one town", x.hidden(0, 1, 0, 0, 3), 64);
        due("4096 pairs of the other one", x.hidden(1, 0, 0, 0, 1), 4096 - 64);
        x.clear(0);
        x.family(0, 1, 64, 1, 0);
        x.family(1, 5, 5, 1, 0);
        x.know(1, 0, 1, 65);
        due("more than 4096", x.hidden(0, 1, 0, 0, 3), STATE);
        due("ask likewise", x.ask(0, 1, 0, 0), STATE);
        for (int f = 0; f < 7; f++) {
            x.family(0, 0, 99, 1, 0);
            x.family(1, 0, 99, 1, 0);
        }
        // 64 times 10^14 by 65 times 10^12: the product does not fit a long.
        due("far more than a long holds", x.hidden(0, 1, 0, 0, 0), STATE);
        x.clear(0);
        for (int f = 0; f < 8; f++) {
            x.family(0, 0, 63, 1, 0);
        }
        x.clear(1);
        for (int f = 0; f < 8; f++) {
            x.family(1, 0, 63, 1, 0);
        }
        due("2 to the 96th is no pair at all", x.hidden(0, 1, 0, 0, 0), STATE);
    }

    private void promise20() {
        promise = 20;
        MoreEven x = new MoreEven();
        put(x, 0, 4);
        x.family(0, 1, 8, 1, 0);
        put(x, 1, 2, 3);
        due("the one that is hidden", x.ask(0, 1, 0, 0), 1);
        due("none is hidden in the first", x.ask(1, 0, 0, 0), NONE);
        x.know(0, 0, 4, 5);
        // Told 4, or 5: the other answers still part. Of 1 to 8 the answers 1, 2, 4, 5, 8 settle.
        due("the most answers", x.ask(0, 1, 0, 0), 1);
        x.know(0, 0, 3, 9);
        x.know(0, 1, 3, 9);
        due("of like ones the least", x.ask(0, 1, 0, 0), 0);
        x.clear(0);
        x.family(0, 0, 1, 1, 0);
        x.family(0, 20, 50, 1, 0);
        put(x, 0, 40);
        due("all settle: more answers", x.ask(0, 1, 0, 0), 1);
        x.clear(0);
        x.clear(1);
        put(x, 0, 7);
        x.family(0, 0, 9, 1, 0);
        x.family(0, 0, 9, 1, 0);
        x.family(1, 0, 9, 1, 0);
        x.family(1, 5, 6, 1, 0);
        due("none settles: the least that is hidden", x.ask(0, 1, 0, 1), 1);
        MoreEven y = new MoreEven();
        put(y, 0, 0, 0, 0, 0, 0, 0);
        y.family(0, 1, 2, 1, 0);
        y.family(0, 97, 99, 1, 0);
        put(y, 1, 1);
        due("the last of eight, to the most that it may have", y.ask(0, 1, 0, 0), 7);
        due("town", x.ask(4, 0, 3, 0), UNKNOWN);
        due("second town", x.ask(0, -1, 3, 0), UNKNOWN);
        due("scale", x.ask(0, 0, 3, 0), OUTSIDE);
        due("kind", x.ask(0, 0, 0, -1), OUTSIDE);
        due("both are one", x.ask(1, 1, 0, 0), STATE);
        due("no families", x.ask(1, 3, 0, 0), STATE);
        due("no families in the first", x.ask(3, 1, 0, 0), STATE);
        due("nothing was changed", x.fillings(0) * x.fillings(1), 2000);
    }

    // ---- poor, spread

    private void poorAndSpread() {
        promise21();
        promise22And23();
        promise24();
    }

    private void promise21() {
        promise = 21;
        MoreEven x = new MoreEven();
        due("without families", x.poor(0, 100, true), 0);
        put(x, 0, 2, 9, 9, 20, 99);
        due("none", x.poor(0, 0, false), 0);
        due("not below", x.poor(0, 9, false), 1);
        due("below", x.poor(0, 10, false), 3);
        due("all", x.poor(0, 100, false), 5);
        due("lack", x.poor(0, 10, true), 10);
        due("lack of all", x.poor(0, 100, true), 361);
        due("town", x.poor(4, 101, true), UNKNOWN);
        due("line 101", x.poor(0, 101, true), OUTSIDE);
        due("line -1", x.poor(0, -1, false), OUTSIDE);
        x.know(0, 0, 2, 3);
        due("outside comes first", x.poor(0, 101, false), OUTSIDE);
        due("not known", x.poor(0, 100, false), STATE);
    }

    private void dueEdge(MoreEven x, int line, int kind, int want) {
        promise = 22;
        due("never up to " + line + " by " + kind, x.never(0, 1, line, kind), want == NONE ? 1 : 0);
        promise = 23;
        due("edge up to " + line + " by " + kind, x.edge(0, 1, line, kind), want);
    }

    private void promise22And23() {
        MoreEven x = new MoreEven();
        put(x, 0, 3, 6, 12, 20);
        put(x, 1, 2, 9, 9, 20);
        dueEdge(x, 6, 0, NONE);
        dueEdge(x, 7, 0, 7);
        dueEdge(x, 100, 0, 7);
        // Lack at 8: 7 and 6.
        dueEdge(x, 7, 1, NONE);
        dueEdge(x, 8, 1, 8);
        dueEdge(x, 100, 1, 8);
        x.clear(1);
        put(x, 1, 3, 20);
        // By families: 1/4 against 1/2 at 4, 2/4 and 1/2 at 7, 3/4 and 1/2 at 13.
        dueEdge(x, 12, 0, NONE);
        dueEdge(x, 13, 0, 13);
        x.clear(0);
        put(x, 0, 0);
        x.clear(1);
        put(x, 1, 99);
        dueEdge(x, 0, 0, NONE);
        dueEdge(x, 1, 0, 1);
        x.know(0, 0, 99, 99);
        dueEdge(x, 100, 1, NONE);
        x.know(1, 0, 98, 98);
        dueEdge(x, 100, 0, NONE);
        x.know(0, 0, 97, 97);
        dueEdge(x, 97, 1, NONE);
        dueEdge(x, 98, 1, 98);
        for (int i = 0; i < 2; i++) {
            promise = 22 + i;
            due("town", poorer(x, i, of(0, 4, 101, 0)), UNKNOWN);
            due("first town", poorer(x, i, of(-1, 0, 101, 0)), UNKNOWN);
            due("line 101", poorer(x, i, of(0, 3, 101, 0)), OUTSIDE);
            due("line -1", poorer(x, i, of(0, 3, -1, 0)), OUTSIDE);
            due("kind 2", poorer(x, i, of(0, 3, 100, 2)), OUTSIDE);
            due("kind -1", poorer(x, i, of(0, 3, 100, -1)), OUTSIDE);
            due("no families", poorer(x, i, of(0, 3, 100, 1)), STATE);
            due("no families in the first", poorer(x, i, of(3, 0, 100, 1)), STATE);
            x.family(2, 1, 2, 1, 0);
            due("not known", poorer(x, i, of(0, 2, 100, 1)), STATE);
        }
    }

    private static int poorer(MoreEven x, int call, int[] told) {
        return call == 0 ? x.never(told[0], told[1], told[2], told[3]) : x.edge(told[0], told[1], told[2], told[3]);
    }

    private void dueSpread(MoreEven x, int part, long above, long under) {
        due("spread " + part, x.spread(0, part, true), x.spread(0, part, false), above, under);
    }

    private void promise24() {
        promise = 24;
        MoreEven x = new MoreEven();
        putWhole(x, 0, of(1, 1, 0), of(4, 9, 0), of(10, 1, 1));
        dueSpread(x, -1, 14, 1);
        // (1 + 16) * 2 - 25 = 9, by 4, times 2/3.
        dueSpread(x, 0, 3, 2);
        dueSpread(x, 1, 0, 1);
        dueSpread(x, 2, 0, 1);
        // 5/2, 5/2, 10 about 5: 12.5 + 25 by 3.
        dueSpread(x, 3, 25, 2);
        x.clear(0);
        putWhole(x, 0, of(99, 1, 0), of(0, 1, 0), of(99, 1, 0), of(99, 1, 1), of(0, 1, 1), of(0, 1, 1),
            of(50, 1, 2), of(1, 1, 2));
        dueSpread(x, -1, 8383, 4);
        dueSpread(x, 0, 3267, 4);
        dueSpread(x, 1, 3267, 4);
        dueSpread(x, 2, 2401, 16);
        dueSpread(x, 3, 4995, 16);
        due("town", x.spread(4, 0, true), UNKNOWN);
        due("part 4", x.spread(1, 4, true), UNKNOWN);
        due("part -2", x.spread(1, -2, false), UNKNOWN);
        due("no families", x.spread(1, 3, false), STATE);
        x.family(1, 1, 2, 1, 0);
        due("not known", x.spread(1, -1, true), STATE);
    }

    // ---- years, taxes

    private void yearsAndTaxes() {
        promise25();
        promise26();
        promise27And28();
        promise29();
        promise30();
        promise31();
        promise32();
    }

    private void promise25() {
        promise = 25;
        MoreEven x = new MoreEven();
        due("without families", x.moved(0, 1), 0);
        put(x, 0, 1, 2, 3, 3);
        put(x, 1, 9, 8, 7, 6);
        due("all but like ones", x.moved(0, 1), 5);
        due("the other way", x.moved(1, 0), 5);
        due("of itself", x.moved(1, 1), 0);
        x.know(1, 0, 8, 8);
        due("like ones then", x.moved(0, 1), 4);
        due("town", x.moved(0, 4), UNKNOWN);
        due("first town", x.moved(-1, 0), UNKNOWN);
        put(x, 2, 1, 2, 3);
        due("not as many", x.moved(0, 2), STATE);
        x.family(2, 3, 4, 1, 0);
        due("not known", x.moved(0, 2), STATE);
        due("the first not known", x.moved(2, 0), STATE);
    }

    private void promise26() {
        promise = 26;
        MoreEven x = new MoreEven();
        put(x, 0, 1, 2, 3, 3);
        put(x, 1, 9, 8, 7, 6);
        due("from the last to the first", x.rose(0, 1, 0), 103);
        due("one up", x.rose(0, 1, 1), 101);
        due("one down", x.rose(0, 1, 2), 99);
        due("two down", x.rose(0, 1, 3), 98);
        due("back", x.rose(1, 0, 0), 97);
        due("of itself", x.rose(0, 0, 2), 100);
        due("town", x.rose(0, 4, 0), UNKNOWN);
        due("family 4", x.rose(0, 1, 4), UNKNOWN);
        due("family -1", x.rose(0, 1, -1), UNKNOWN);
        put(x, 2, 1, 2);
        due("not as many", x.rose(0, 2, 0), STATE);
        due("a family of the first alone", x.rose(0, 2, 3), UNKNOWN);
        due("a family of the second alone", x.rose(2, 0, 3), UNKNOWN);
        x.know(1, 0, 9, 10);
        due("not known", x.rose(0, 1, 1), STATE);
        due("the first not known", x.rose(1, 0, 1), STATE);
    }

    private void promise27And28() {
        promise = 27;
        MoreEven x = new MoreEven();
        due("from -1", x.band(-1, 0), OUTSIDE);
        due("from 100", x.band(100, 0), OUTSIDE);
        due("rate -1", x.band(0, -1), OUTSIDE);
        due("rate 11", x.band(0, 11), OUTSIDE);
        due("nothing was changed", x.count(2), 0);
        due("the first", x.band(0, 10), 1);
        due("the second", x.band(99, 0), 2);
        due("like another one", x.band(0, 10), 3);
        due("the fourth", x.band(50, 5), 4);
        due("outside comes first", x.band(50, 11), OUTSIDE);
        due("the fifth", x.band(50, 6), FULL);
        due("it stays at four", x.count(2), 4);
        due("and as they were", x.tax(60), 55);
        promise = 28;
        due("four were there", x.unband(), 4);
        due("none are there", x.unband(), 0);
        due("nothing is taken", x.tax(99), 0);
        due("from the first again", x.band(1, 1), 1);
        due("only what was told now", x.tax(99), 9);
    }

    private void promise29() {
        promise = 29;
        MoreEven x = new MoreEven();
        due("without bands", x.tax(99), 0);
        x.band(50, 5);
        x.band(10, 2);
        due("none", x.tax(0), 0);
        due("not above", x.tax(10), 0);
        due("cut", x.tax(14), 0);
        due("one", x.tax(15), 1);
        due("to the next", x.tax(50), 8);
        due("above the next", x.tax(52), 9);
        due("together cut: 8.0 and 24.5", x.tax(99), 32);
        x.band(10, 3);
        due("told last counts alone", x.tax(50), 12);
        x.band(90, 0);
        due("a band that takes nothing", x.tax(99), 32);
        due("has 100", x.tax(100), OUTSIDE);
        due("has -1", x.tax(-1), OUTSIDE);
        MoreEven y = new MoreEven();
        y.band(20, 3);
        y.band(23, 3);
        due("cut together, not each: 0.9 and 0.6", y.tax(25), 1);
        y.unband();
        y.band(0, 10);
        due("all of it", y.tax(99), 99);
    }

    private void promise30() {
        promise = 30;
        MoreEven x = new MoreEven();
        x.band(10, 5);
        putWhole(x, 0, of(40, 4, 1), of(5, 2, 0), of(99, 9, 2));
        putWhole(x, 1, of(1, 1, 0), of(1, 1, 0), of(1, 1, 0), of(1, 1, 0));
        x.know(1, 0, 0, 9);
        due("taken together", x.taxed(0, 1), 15 + 44);
        due("as many as there", x.town(1, 0), 3);
        due("what is left", x.about(1, 0, 0), 25);
        due("high likewise", x.about(1, 0, 1), 25);
        due("size", x.about(1, 2, 2), 9);
        due("part", x.about(1, 2, 3), 2);
        due("not above", x.about(1, 1, 0), 5);
        due("cut", x.about(1, 2, 0), 55);
        due("the town itself stays", x.about(0, 2, 0), 99);
        due("town", x.taxed(4, 4), UNKNOWN);
        due("to", x.taxed(0, 4), UNKNOWN);
        due("both are one", x.taxed(0, 0), STATE);
        x.know(0, 0, 40, 41);
        due("not known", x.taxed(0, 1), STATE);
        due("nothing was changed", x.town(1, 3), 85);
        due("into one that is not known", x.taxed(1, 0), 7 + 22);
        due("without families", x.taxed(3, 1), 0);
        due("the other one has none then", x.town(1, 0), 0);
    }

    private void promise31() {
        promise = 31;
        MoreEven x = new MoreEven();
        due("nothing of all", x.rises(), 1);
        x.band(0, 10);
        due("all of it", x.rises(), 1);
        x.unband();
        x.band(0, 5);
        due("a cut half does not", x.rises(), 0);
        x.unband();
        x.band(98, 10);
        due("only the last", x.rises(), 1);
        x.unband();
        x.band(97, 10);
        due("the last two", x.rises(), 1);
        x.unband();
        x.band(50, 10);
        due("all above", x.rises(), 1);
        x.band(98, 0);
        due("and nothing of the last", x.rises(), 0);
        x.unband();
        x.band(0, 10);
        x.band(1, 0);
        due("less of a share from the second on", x.rises(), 0);
        x.band(2, 10);
        due("less of a share at the second alone", x.rises(), 0);
        x.unband();
        x.band(89, 1);
        due("only the last has a tenth", x.rises(), 1);
    }

    private void promise32() {
        promise = 32;
        MoreEven x = new MoreEven();
        put(x, 0, 1, 2, 3);
        put(x, 3, 4);
        x.family(1, 5, 6, 1, 0);
        x.band(1, 1);
        x.band(1, 2);
        due("families", x.count(0), 5);
        due("known towns with some", x.count(1), 2);
        due("bands", x.count(2), 2);
        due("what 3", x.count(3), OUTSIDE);
        due("what -1", x.count(-1), OUTSIDE);
        x.know(1, 0, 6, 6);
        due("three are known", x.count(1), 3);
    }
}
