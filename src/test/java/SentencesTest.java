import java.util.Arrays;

/** Each sentence of the document that names a boundary case, in its order, with a test of its own. */
final class SentencesTest {
    private static final int UNKNOWN = MoreEven.UNKNOWN;
    private static final int OUTSIDE = MoreEven.OUTSIDE;
    private static final int STATE = MoreEven.STATE;
    private static final int NONE = MoreEven.NONE;

    private final Check check = new Check("SentencesTest");
    private String sentence = "";

    private SentencesTest() {
    }

    public static void main(String[] args) {
        SentencesTest test = new SentencesTest();
        test.uses();
        test.towns();
        test.curves();
        test.orders();
        test.coins();
        test.measures();
        test.minding();
        test.fillings();
        test.poor();
        test.spreads();
        test.years();
        test.bands();
        test.check.end();
    }

    private void says(String words) {
        sentence = words;
    }

    private void due(String what, long got, long want) {
        check.due("'" + sentence + "' " + what, got, want);
    }

    private void due(String what, long above, long under, long wantAbove, long wantUnder) {
        due(what + ", above", above, wantAbove);
        due(what + ", below", under, wantUnder);
    }

    /** Town 0 of one object, of known families of size 1 and part 0. */
    private static MoreEven town(int... has) {
        MoreEven x = new MoreEven();
        put(x, 0, has);
        return x;
    }

    private static MoreEven towns(int[] first, int[] second) {
        MoreEven x = town(first);
        put(x, 1, second);
        return x;
    }

    private static void put(MoreEven x, int town, int... has) {
        for (int h : has) {
            x.family(town, h, h, 1, 0);
        }
    }

    private static int[] of(int... numbers) {
        return numbers;
    }

    // ---- What it is

    private void uses() {
        says("An object is used for at most 512 calls after it has been made");
        MoreEven x = new MoreEven();
        for (int call = 1; call <= 510; call++) {
            int due = (call - 1) % 9 + 1;
            due("call " + call, due == 9 ? x.clear(3) : x.family(3, 0, 99, 9, 2), due == 9 ? 8 : due);
        }
        due("call 511", x.town(3, 0), 6);
        due("call 512", x.fillings(3), 1_000_000_000_000L);
        for (int call = 0; call < 5000; call++) {
            // What is answered is free; that it ends and throws nothing is not.
            x.family(call % 4, 0, call % 100, 1, 0);
            x.band(call % 100, 1);
            x.order(0, 1, 0, 0);
        }
    }

    // ---- Terms 1

    private void towns() {
        says("what it HAS is a whole number from LOW to HIGH (0 to 99 each)");
        MoreEven x = new MoreEven();
        due("0 and 0", x.family(0, 0, 0, 1, 0), 1);
        due("99 and 99", x.family(0, 99, 99, 1, 0), 2);
        due("0 and 99", x.family(0, 0, 99, 1, 0), 3);
        due("the least and most together", x.town(0, 3), x.town(0, 4), 99, 198);
        due("both ends are among them", x.fillings(0), 100);
        says("OUTSIDE: low, high (no less), size");
        due("high as low", x.family(1, 50, 50, 1, 0), 1);
        due("high one less", x.family(1, 50, 49, 1, 0), OUTSIDE);
        due("high one more", x.family(1, 50, 51, 1, 0), 2);
        says("100 times LOW, and HIGH, as they were");
        due("0 and 99", x.know(0, 2, 0, 0), 99);
        due("0 and 0", x.know(0, 2, 99, 99), 0);
        due("99 and 99", x.know(0, 2, 98, 99), 9999);
        due("98 and 99", x.know(0, 2, 98, 99), 9899);
        says("A TOWN is KNOWN, if LOW is HIGH in all of it");
        for (int hidden = 0; hidden < 3; hidden++) {
            MoreEven y = town(7, 7, 7);
            y.know(0, hidden, 7, 8);
            due("not if one is not", y.town(0, 1), 0);
            due("nor is it counted", y.count(1), 0);
            y.know(0, hidden, 8, 8);
            due("if all are", y.town(0, 1), 1);
            due("and it is counted", y.count(1), 1);
        }
        due("with none", x.town(3, 1), 1);
    }

    private void curves() {
        says("1: each FAMILY is SIZE heads; 2: each with twice what it HAS by (SIZE and 1)");
        MoreEven x = new MoreEven();
        x.family(0, 99, 99, 1, 0);
        x.family(0, 99, 99, 9, 0);
        due("as houses", x.below(0, 0, 1, 2, true), x.below(0, 0, 1, 2, false), 1, 2);
        // Nine heads of ten have 11 each, then 99/5.
        due("as heads", x.below(0, 1, 9, 10, true), x.below(0, 1, 9, 10, false), 1, 2);
        due("by scale 2", x.below(0, 2, 9, 10, true), x.below(0, 2, 9, 10, false), 9, 14);
        says("of like ones the FAMILY of lesser number");
        for (int first = 0; first < 2; first++) {
            MoreEven y = new MoreEven();
            y.family(0, 2 + 2 * first, 2 + 2 * first, 1 + first, 0);
            y.family(0, 4 - 2 * first, 4 - 2 * first, 2 - first, 0);
            put(y, 1, 1, 3);
            due("the least break", y.where(0, 1, 1, 0, true), y.where(0, 1, 1, 0, false), 1, 3 - first);
        }
        says("FROM BELOW at a share p (0 to 1)");
        MoreEven z = town(5, 2);
        due("0", z.below(0, 0, 0, 1, true), z.below(0, 0, 0, 1, false), 0, 1);
        due("0 by 100", z.below(0, 0, 0, 100, true), z.below(0, 0, 0, 100, false), 0, 1);
        due("1", z.below(0, 0, 1, 1, true), z.below(0, 0, 1, 1, false), 1, 1);
        due("100 by 100", z.below(0, 0, 100, 100, true), z.below(0, 0, 100, 100, false), 1, 1);
        due("an end", z.below(0, 0, 50, 100, true), z.below(0, 0, 50, 100, false), 2, 7);
        says("of one that lies in the midst the part of it");
        due("49 by 100", z.below(0, 0, 49, 100, true), z.below(0, 0, 49, 100, false), 7, 25);
        // A fiftieth of the one that has 5, and all of the one that has 2.
        due("51 by 100", z.below(0, 0, 51, 100, true), z.below(0, 0, 51, 100, false), 3, 10);
        without();
    }

    private void without() {
        says("without anything at all: as if all had one");
        MoreEven x = new MoreEven();
        x.family(0, 0, 0, 1, 0);
        x.family(0, 0, 0, 9, 0);
        put(x, 1, 0, 1);
        put(x, 2, 5);
        for (int scale = 0; scale < 3; scale++) {
            due("the share itself", x.below(0, scale, 30, 100, true), x.below(0, scale, 30, 100, false), 3, 10);
            due("as even as one alone", x.order(0, 2, scale, 0), 3);
            due("ahead of one with something", x.order(0, 1, scale, 0), 1);
            due("the other way", x.order(1, 0, scale, 0), 2);
            due("but not tall", x.order(0, 1, scale, 1), 2);
            due("tall both the same", x.order(0, 0, scale, 1), 3);
        }
        due("a break of its own", x.where(0, 1, 1, 0, true), x.where(0, 1, 1, 0, false), 1, 10);
        due("by houses", x.where(0, 1, 0, 0, true), x.where(0, 1, 0, 0, false), 1, 2);
        MoreEven y = town(0);
        y.family(0, 0, 1, 1, 0);
        put(y, 1, 1, 1);
        due("among the fillings, long", y.hidden(0, 1, 0, 0, 3), y.hidden(0, 1, 0, 0, 2), 1, 1);
        due("the other way", y.hidden(1, 0, 0, 0, 3), y.hidden(1, 0, 0, 0, 1), 1, 1);
        due("among the fillings, tall", y.hidden(0, 1, 0, 1, 3), y.hidden(0, 1, 0, 1, 2), 0, 2);
        due("the other way, tall", y.hidden(1, 0, 0, 1, 3), y.hidden(1, 0, 0, 1, 1), 0, 2);
        y.know(1, 0, 0, 0);
        due("ahead of one with something", y.hidden(0, 1, 0, 0, 1), y.hidden(0, 1, 0, 0, 3), 1, 1);
        due("ahead, the other way", y.hidden(1, 0, 0, 0, 2), y.hidden(1, 0, 0, 0, 3), 1, 1);
        y.know(1, 1, 0, 0);
        due("tall both have nothing", y.hidden(0, 1, 0, 1, 3), y.hidden(0, 1, 0, 1, 1), 1, 1);
        due("tall both have nothing, the other way", y.hidden(1, 0, 0, 1, 3), y.hidden(1, 0, 0, 1, 2), 1, 1);
        withoutAsked();
    }

    private void withoutAsked() {
        MoreEven x = new MoreEven();
        x.family(0, 0, 1, 1, 0);
        x.family(0, 0, 2, 1, 0);
        put(x, 1, 1);
        // Long the second is ahead but at 0 0 and 1 1: of the three answers of family 1 only 2 settles.
        due("the one that settles", x.ask(0, 1, 0, 0), 1);
        x.know(0, 0, 0, 2);
        x.know(0, 1, 0, 1);
        x.know(1, 0, 0, 0);
        put(x, 1, 3);
        // Against 0 3 the first is ahead at 0 0, 1 1 and 2 1, else both are the same.
        due("none settles", x.ask(0, 1, 0, 0), 0);
        MoreEven y = towns(of(1, 1), of(0));
        y.know(0, 1, 0, 1);
        y.know(0, 0, 0, 1);
        put(y, 1, 0);
        // Tall both are the same at 0 0, else the first is ahead: the answer 1 settles, of both families.
        due("tall of like ones", y.ask(0, 1, 0, 1), 0);
        MoreEven z = new MoreEven();
        z.family(0, 0, 1, 9, 0);
        z.family(0, 0, 1, 1, 0);
        put(z, 1, 0, 5);
        // By heads: ahead at 0 0 and 1 0, behind at 0 1, neither at 1 1; only 0 of family 1 settles.
        due("the answer 0 settles", z.ask(0, 1, 1, 0), 1);
        z.clear(0);
        z.family(0, 1, 2, 1, 0);
        z.family(0, 0, 1, 1, 0);
        z.know(1, 0, 0, 1);
        z.know(1, 1, 0, 0);
        // With 0 of family 1 it is behind one without anything, but the same as 1 0.
        due("nothing in the second: none settles", z.ask(0, 1, 0, 0), 0);
    }

    private void orders() {
        says("shares p at which FAMILIES end in the one or the other, 1 with them");
        MoreEven x = towns(of(4), of(3));
        due("1 alone, long", x.where(0, 1, 0, 0, true), x.where(0, 1, 0, 0, false), NONE, NONE);
        due("1 alone, tall", x.where(0, 1, 0, 1, true), x.where(0, 1, 0, 1, false), 1, 1);
        MoreEven y = towns(of(1, 5), of(1, 1, 6));
        // Long 1/9, 1/6, 4/9 at 1/3, 1/2, 2/3 against 1/8, 3/16, 1/4.
        due("its own break", y.where(1, 0, 0, 0, true), y.where(1, 0, 0, 0, false), 1, 3);
        due("a break of the other one", y.where(0, 1, 0, 0, true), y.where(0, 1, 0, 0, false), 2, 3);
        says("it is not less FROM BELOW at all BREAKS, and at some more");
        due("at none more: the same", towns(of(1, 2, 3), of(2, 3, 1)).order(0, 1, 0, 0), 3);
        due("at the first alone", towns(of(1, 3, 6), of(0, 4, 6)).order(0, 1, 0, 1), 1);
        due("at the last alone", towns(of(1, 3, 6), of(1, 3, 7)).order(0, 1, 0, 1), 2);
        due("at one more, at one less", towns(of(1, 3, 6), of(0, 5, 5)).order(0, 1, 0, 0), 0);
        due("long it is as much", towns(of(1, 3), of(2, 6)).order(0, 1, 0, 0), 3);
        due("tall it is less", towns(of(1, 3), of(2, 6)).order(0, 1, 0, 1), 2);
        due("one alone is even", towns(of(9), of(7, 7, 7)).order(0, 1, 0, 0), 3);
        lastBreak();
        says("FRACTIONS are told above, below (1 and more), in least terms");
        MoreEven z = town(2, 4, 4);
        due("4 by 10", z.measure(0, 2, 1, true), z.measure(0, 2, 1, false), 2, 5);
        due("0 by 10", z.measure(0, 2, 0, true), z.measure(0, 2, 0, false), 0, 1);
        due("10 by 10", z.measure(0, 2, 3, true), z.measure(0, 2, 3, false), 1, 1);
        due("a whole number", z.measure(0, 0, 0, true), z.measure(0, 0, 0, false), 2, 1);
        due("8 by 9", z.spread(0, -1, true), z.spread(0, -1, false), 8, 9);
    }

    private void lastBreak() {
        says("BREAKS of two TOWNS");
        MoreEven x = new MoreEven();
        for (int f = 0; f < 8; f++) {
            x.family(0, 1, 1, 1, 0);
            // Nine heads, of which the last alone has 2: all ends but 1 lie apart from those of eight heads.
            x.family(1, f == 0 || f == 7 ? 2 : 1, f == 0 || f == 7 ? 2 : 1, f == 0 ? 2 : 1, 0);
        }
        due("only the fifteenth tells", x.order(0, 1, 1, 1), 2);
        due("only the fifteenth tells, the other way", x.order(1, 0, 1, 1), 1);
        due("it is 1", x.where(1, 0, 1, 1, true), x.where(1, 0, 1, 1, false), 1, 1);
        due("no other one", x.where(0, 1, 1, 1, true), NONE);
    }

    // ---- Terms 2

    private void coins() {
        says("both KNOWN, as many FAMILIES, the same together");
        due("one more family without anything", towns(of(1, 2), of(1, 2, 0)).coins(0, 1), STATE);
        due("one more together", towns(of(1, 2), of(1, 3)).coins(0, 1), STATE);
        due("one family", towns(of(5), of(5)).coins(0, 1), 0);
        MoreEven hidden = towns(of(1, 2), of(1, 2));
        hidden.know(1, 1, 2, 3);
        due("the second is not known", hidden.coins(0, 1), STATE);
        due("the first is not known", hidden.coins(1, 0), STATE);
        hidden.know(1, 1, 2, 2);
        due("both are known", hidden.coins(0, 1), 0);
        says("The fewest (0: they are the same); NONE: there are none");
        due("the same", towns(of(3, 1, 2), of(1, 2, 3)).coins(0, 1), 0);
        due("from one of lesser number", towns(of(2, 2), of(1, 3)).coins(0, 1), NONE);
        due("from one of greater number", towns(of(1, 3), of(2, 2)).coins(0, 1), 1);
        due("one too many at the first place", towns(of(1, 3, 5), of(0, 4, 5)).coins(0, 1), NONE);
        due("one short at the last place", towns(of(1, 4, 4), of(2, 2, 5)).coins(0, 1), NONE);
        due("more even, then less", towns(of(0, 6, 6), of(2, 3, 7)).coins(0, 1), NONE);
        due("one to two", towns(of(0, 0, 4), of(1, 1, 2)).coins(0, 1), 2);
        due("two to one", towns(of(0, 4, 4), of(2, 3, 3)).coins(0, 1), 2);
        due("through the midst", towns(of(0, 3, 9), of(2, 4, 6)).coins(0, 1), 2);
        // Due are +3 -2 +2 -3: place 1 may not give to place 2, so the four are one group.
        due("not from a place to one of greater number", towns(of(0, 10, 10, 20), of(3, 8, 12, 17)).coins(0, 1), 3);
        due("told in another order", towns(of(10, 0, 20, 10), of(17, 12, 8, 3)).coins(0, 1), 3);
        due("two pairs, one within the other", towns(of(0, 5, 15, 20), of(3, 7, 13, 17)).coins(0, 1), 2);
        giving();
    }

    private void giving() {
        says("It is A COIN, if it HAS then no less than the other one");
        for (int amount = 1; amount <= 6; amount++) {
            MoreEven x = town(10, 4);
            int due = amount <= 3 ? 1 : 0;
            due("would " + amount, x.would(0, 0, 1, amount), due);
            due("nothing is given", x.about(0, 0, 0), x.about(0, 1, 0), 10, 4);
            due("give " + amount, x.give(0, 0, 1, amount), due);
            due("it is given", x.about(0, 0, 0), x.about(0, 1, 0), 10 - amount, 4 + amount);
            due("high likewise", x.about(0, 0, 1), x.about(0, 1, 1), 10 - amount, 4 + amount);
        }
        says("OUTSIDE: amount (1 to 99)");
        MoreEven all = town(99, 0);
        due("0", all.give(0, 0, 1, 0), OUTSIDE);
        due("100", all.give(0, 0, 1, 100), OUTSIDE);
        due("99, all of it", all.give(0, 0, 1, 99), 0);
        due("it has nothing then", all.about(0, 0, 0), all.about(0, 1, 0), 0, 99);
        due("1", all.give(0, 1, 0, 1), 1);
        says("STATE: the TOWN is not KNOWN");
        MoreEven other = town(9, 3, 1);
        other.know(0, 2, 1, 2);
        due("though both are", other.give(0, 0, 1, 1), STATE);
        says("or both are one");
        due("both are one", town(9, 3).give(0, 0, 0, 1), STATE);
        says("or it HAS not so much");
        due("as much as it has", town(9, 3).give(0, 0, 1, 9), 0);
        due("one more", town(9, 3).give(0, 0, 1, 10), STATE);
        due("of nothing", town(0, 3).would(0, 0, 1, 1), STATE);
        says("or the other one would have more than 99");
        due("99", town(9, 90).give(0, 0, 1, 9), 0);
        due("100", town(10, 90).give(0, 0, 1, 10), STATE);
        due("of two that have all", town(99, 99).would(0, 0, 1, 1), STATE);
    }

    // ---- Terms 3

    private void measures() {
        says("0 the greatest less the least; 1 what all pairs differ; 5 squared");
        for (int kind = 0; kind < 6; kind += kind == 1 ? 4 : 1) {
            due("of one family", town(99).measure(0, kind, 0, true), town(99).measure(0, kind, 0, false), 0, 1);
            due("k does not matter", town(99).measure(0, kind, 1, true), OUTSIDE);
        }
        due("from 0 to 0", town(0, 0).measure(0, 0, 0, true), 0);
        due("from 99 to 99", town(99, 99).measure(0, 0, 0, true), 0);
        due("from 0 to 99", town(0, 99).measure(0, 0, 0, true), 99);
        due("one pair", town(0, 99).measure(0, 1, 0, true), 99);
        due("one pair, squared", town(0, 99).measure(0, 5, 0, true), 9801);
        says("2 what those k (0 to 8) that HAVE most have together (all, if they are fewer)");
        MoreEven x = town(1, 3, 3);
        int[][] shares = {{0, 1}, {3, 7}, {6, 7}, {1, 1}, {1, 1}, {1, 1}, {1, 1}, {1, 1}, {1, 1}};
        for (int k = 0; k <= 8; k++) {
            due("k " + k, x.measure(0, 2, k, true), x.measure(0, 2, k, false), shares[k][0], shares[k][1]);
        }
        says("by what all have (0 without anything)");
        for (int k = 0; k <= 8; k++) {
            due("k " + k, town(0, 0).measure(0, 2, k, true), town(0, 0).measure(0, 2, k, false), 0, 1);
        }
        due("more even than with something", towns(of(0), of(1)).calls(0, 1, 2, 1), 1);
        due("none of both", towns(of(0), of(1)).calls(0, 1, 2, 0), 3);
        says("3 less than k (0 to 99): how many FAMILIES, by all");
        MoreEven y = town(0, 50, 98, 99);
        int[][] fewer = {{0, 0, 1}, {1, 1, 4}, {50, 1, 4}, {51, 1, 2}, {98, 1, 2}, {99, 3, 4}};
        for (int[] row : fewer) {
            due("k " + row[0], y.measure(0, 3, row[0], true), y.measure(0, 3, row[0], false), row[1], row[2]);
        }
        says("4 what each less than k lacks to k, together, by all FAMILIES");
        int[][] lacks = {{0, 0, 1}, {1, 1, 4}, {50, 25, 2}, {51, 13, 1}, {98, 73, 2}, {99, 149, 4}};
        for (int[] row : lacks) {
            due("k " + row[0], y.measure(0, 4, row[0], true), y.measure(0, 4, row[0], false), row[1], row[2]);
        }
        says("The lesser is the more EVEN");
        due("one less", towns(of(1, 5), of(1, 4)).calls(0, 1, 0, 0), 2);
        due("alike", towns(of(1, 5), of(2, 6)).calls(0, 1, 0, 0), 3);
        due("one more", towns(of(1, 5), of(1, 6)).calls(0, 1, 0, 0), 1);
        due("3/4 and 5/6", towns(of(1, 3), of(1, 5)).calls(0, 1, 2, 1), 1);
        due("1/2 and 1/3", towns(of(1, 9), of(1, 9, 9)).calls(0, 1, 3, 5), 2);
        due("4/2 and 4/3", towns(of(1, 9), of(1, 9, 9)).calls(0, 1, 4, 5), 2);
        due("1/3 and 1/2", towns(of(1, 9, 9), of(1, 9)).calls(0, 1, 3, 5), 1);
        due("4/3 and 4/2", towns(of(1, 9, 9), of(1, 9)).calls(0, 1, 4, 5), 1);
        parting();
    }

    private void parting() {
        says("the first two that part over two TOWNS; NONE");
        MoreEven x = towns(of(2, 2, 8), of(1, 5, 6));
        due("of itself", x.part(0, 0, 8), NONE);
        due("k 0: 2, 3 and 4 call both alike", x.part(0, 1, 0), NONE);
        due("k 2", x.part(0, 1, 2), 2);
        // Less than 8 are all but the one that has 8.
        due("k 8", x.part(0, 1, 8), 3);
        MoreEven y = towns(of(2, 2, 2, 4), of(1, 3, 3, 3));
        // Greatest less least, pairs and squares alike: 2, 6, 12 in both.
        due("k 1: only 2 calls, 4/10 and 3/10", y.part(0, 1, 1), NONE);
        due("k 2: 3 and 4 call the first", y.part(0, 1, 2), NONE);
        due("k 3: 2 calls the first, 8/10 and 9/10, 3 the second, 3/4 and 1/4", y.part(0, 1, 3), 23);
        due("the other way", y.part(1, 0, 3), 23);
        says("OUTSIDE: k (0 to 8)");
        due("k 9", x.part(0, 1, 9), OUTSIDE);
        due("k -1", x.part(0, 1, -1), OUTSIDE);
    }

    private void minding() {
        says("by no COIN of 1 (from one that HAS 2 more at least), it comes out greater");
        MoreEven x = new MoreEven();
        // 0 0 k: from k, the one that has k is less then. With k 1 none that gives has 1, with 6 none has 6.
        int[] dueAgainst = {NONE, NONE, 2, 3, 4, 5, NONE, NONE};
        for (int k = 0; k < 8; k++) {
            due("against less than " + k, x.against(3, k), dueAgainst[k]);
            due("minds less than " + k, x.minds(3, k), dueAgainst[k] == NONE ? 1 : 0);
        }
        due("less than 99", x.minds(3, 99), 1);
        for (int k = 0; k <= 8; k++) {
            due("those k that have most", x.minds(2, k), 1);
            due("what is lacking to k", x.minds(4, k), 1);
        }
        due("what is lacking to 99", x.minds(4, 99), 1);
        due("no town is against", x.against(4, 99), NONE);
    }

    // ---- Terms 4

    private void fillings() {
        says("How many FILLINGS a TOWN has (1 at least)");
        MoreEven x = town(4, 4);
        due("no families", x.fillings(3), 1);
        due("known", x.fillings(0), 1);
        x.know(0, 1, 4, 5);
        due("one more", x.fillings(0), 2);
        x.know(0, 1, 0, 99);
        due("all", x.fillings(0), 100);
        says("Asked only where there are 4096 at most");
        int[][] pairs = {{63, 65, 4095}, {64, 64, 4096}, {41, 100, STATE}, {65, 64, STATE}, {100, 41, STATE}};
        for (int[] row : pairs) {
            MoreEven y = new MoreEven();
            y.family(0, 0, row[0] - 1, 1, 0);
            y.family(1, 0, row[1] - 1, 1, 0);
            due(row[0] + " by " + row[1], y.hidden(0, 1, 0, 0, 3), row[2]);
            due(row[0] + " by " + row[1] + ", ask", y.ask(0, 1, 0, 0), row[2] == STATE ? STATE : 0);
        }
        MoreEven y = new MoreEven();
        y.family(0, 0, 63, 1, 0);
        y.family(0, 0, 63, 1, 0);
        put(y, 1, 1, 1);
        // Alike with 1 and 1 are 0 and 0 (as if all had one), 1 and 1, .. 63 and 63.
        due("4096 of one town", y.hidden(0, 1, 0, 0, 3), 64);
        due("and the other way", y.hidden(1, 0, 0, 0, 1), 4032);
        y.know(1, 0, 1, 2);
        due("8192", y.hidden(0, 1, 0, 0, 3), STATE);
        says("STATE: both TOWNS are one");
        due("hidden", x.hidden(0, 0, 0, 0, 3), STATE);
        due("ask", x.ask(0, 0, 0, 0), STATE);
        says("or one has no FAMILIES");
        due("the second", x.hidden(0, 1, 0, 0, 3), STATE);
        due("the first", x.hidden(1, 0, 0, 0, 3), STATE);
        due("the second, ask", x.ask(0, 1, 0, 0), STATE);
        due("the first, ask", x.ask(1, 0, 0, 0), STATE);
        told();
        asking();
        ends();
    }

    private void told() {
        says("the first is AHEAD (1), the second (2), both are the same (3), neither (0)");
        MoreEven x = town(3);
        x.family(0, 2, 4, 1, 0);
        put(x, 1, 3, 3);
        int[][] due = {{0, 0, 2, 1}, {0, 1, 1, 1}};
        for (int kind = 0; kind < 2; kind++) {
            for (int told = 0; told < 4; told++) {
                due("kind " + kind + " told " + told, x.hidden(0, 1, 0, kind, told), due[kind][told]);
            }
        }
        MoreEven y = towns(of(1, 5), of(2, 3));
        due("tall neither", y.hidden(0, 1, 0, 1, 0), 1);
        due("one pair alone", y.hidden(0, 1, 0, 1, 3), 0);
    }

    private void asking() {
        says("NONE: there is no such FAMILY");
        MoreEven x = towns(of(1, 5), of(2, 3));
        due("all is known", x.ask(0, 1, 0, 0), NONE);
        x.know(1, 0, 2, 3);
        due("only the second is hidden", x.ask(0, 1, 0, 0), NONE);
        x.know(0, 1, 5, 6);
        due("one is hidden", x.ask(0, 1, 0, 0), 1);
        says("of which the most answers SETTLE, of like ones the least");
        MoreEven y = new MoreEven();
        y.family(0, 3, 4, 1, 0);
        y.family(0, 3, 4, 1, 0);
        put(y, 1, 1, 1);
        // By sum all is ahead, so each answer of both settles.
        due("two and two answers", y.ask(0, 1, 0, 1), 0);
        y.know(0, 1, 3, 5);
        due("two and three answers", y.ask(0, 1, 0, 1), 1);
        y.know(0, 0, 3, 5);
        due("three and three answers", y.ask(0, 1, 0, 1), 0);
        says("An answer SETTLES, if order() tells the same in all pairs that are left");
        MoreEven z = new MoreEven();
        z.family(0, 1, 2, 1, 0);
        z.family(0, 0, 9, 1, 0);
        z.family(1, 0, 9, 1, 0);
        due("none settles", z.ask(0, 1, 0, 1), 0);
        z.know(1, 0, 9, 9);
        // Tall, 2 and 9 over two are less than 9 over one: the second is ahead in all pairs.
        due("all settle: ten are more than two", z.ask(0, 1, 0, 1), 1);
    }

    private void ends() {
        says("An answer of a FAMILY: LOW and HIGH are answers, too");
        MoreEven x = new MoreEven();
        put(x, 1, 5);
        x.family(0, 6, 7, 1, 0);
        x.family(0, 4, 5, 1, 0);
        // Tall, with 5 the first is ahead, with 4 the second of 6 and neither of 7.
        due("only HIGH settles", x.ask(0, 1, 0, 1), 1);
        x.know(0, 0, 5, 6);
        // With 4 the second is ahead, with 5 both are the same at 5.
        due("only LOW settles", x.ask(0, 1, 0, 1), 1);
        MoreEven y = new MoreEven();
        y.family(0, 0, 1, 1, 0);
        y.family(0, 0, 1, 1, 0);
        put(y, 1, 0);
        due("as much as nothing", y.ask(0, 1, 0, 1), 0);
        y.know(1, 0, 9, 9);
        due("the answer 0 of the first, told anew", y.ask(0, 1, 0, 1), 0);
        MoreEven z = new MoreEven();
        z.family(0, 98, 99, 1, 0);
        z.family(0, 0, 1, 1, 0);
        put(z, 1, 1, 98);
        // Only 0 settles: the second is ahead. 99 of the one is not 0 of the next one.
        due("99 of one and 0 of another one", z.ask(0, 1, 0, 1), 1);
        MoreEven w = town(0, 0, 0, 0, 0, 0);
        w.family(0, 1, 2, 1, 0);
        w.family(0, 97, 99, 1, 0);
        put(w, 1, 1);
        due("99 of the eighth", w.ask(0, 1, 0, 0), 7);
    }

    // ---- Terms 5

    private void poor() {
        says("POOR below a line z (0 to 100) are FAMILIES that HAVE less; LACK: z less what they HAVE");
        MoreEven x = town(0, 50, 99);
        int[][] due = {{0, 0, 0}, {1, 1, 1}, {50, 1, 50}, {51, 2, 52}, {99, 2, 148}, {100, 3, 151}};
        for (int[] row : due) {
            due("poor below " + row[0], x.poor(0, row[0], false), row[1]);
            due("lack below " + row[0], x.poor(0, row[0], true), row[2]);
        }
        says("STATE: it is not KNOWN");
        x.know(0, 2, 98, 99);
        due("not known", x.poor(0, 0, false), STATE);
        due("no families: known", x.poor(1, 100, true), 0);
        says("NEVER POORER, if at all lines 0 to z it is no more");
        never(towns(of(5), of(5)), 0, 100, NONE);
        never(towns(of(5), of(5)), 1, 100, NONE);
        never(towns(of(5), of(6)), 0, 5, NONE);
        never(towns(of(5), of(6)), 0, 6, 6);
        never(towns(of(5), of(6)), 1, 5, NONE);
        never(towns(of(5), of(6)), 1, 6, 6);
        never(towns(of(0), of(99)), 0, 0, NONE);
        never(towns(of(0), of(99)), 1, 1, 1);
        never(towns(of(98), of(99)), 0, 98, NONE);
        never(towns(of(98), of(99)), 0, 99, 99);
        never(towns(of(99), of(98)), 0, 100, NONE);
        never(towns(of(5, 5), of(0, 9)), 0, 100, 6);
        // Lack below 9: 8 and 9, below 10: 10 and 11.
        never(towns(of(5, 5), of(0, 9)), 1, 100, NONE);
        never(towns(of(99), of(98)), 1, 100, NONE);
        says("its POOR by its FAMILIES, its LACK by its FAMILIES");
        never(towns(of(5, 9), of(5, 9, 5, 9)), 0, 100, NONE);
        never(towns(of(5, 9), of(5, 9, 9)), 0, 100, 6);
        never(towns(of(5, 9, 9), of(5, 9)), 1, 100, NONE);
        // Lack below 10: 6/2 and 9/3, below 9: 4/2 and 6/3, below 8: 3/2 and 4/3.
        never(towns(of(5, 9), of(6, 6, 9)), 1, 100, 6);
        never(towns(of(6, 6, 9), of(5, 9)), 1, 100, NONE);
    }

    private void never(MoreEven x, int kind, int line, int want) {
        due("edge up to " + line, x.edge(0, 1, line, kind), want);
        due("never up to " + line, x.never(0, 1, line, kind), want == NONE ? 1 : 0);
    }

    private void spreads() {
        says("what MEASURE 5 tells, by the square of how many FAMILIES");
        due("of one", town(99).spread(0, -1, true), town(99).spread(0, -1, false), 0, 1);
        due("0 and 99", town(0, 99).spread(0, -1, true), town(0, 99).spread(0, -1, false), 9801, 4);
        says("Within a PART: likewise of its FAMILIES alone, times how many they are, by all");
        MoreEven x = new MoreEven();
        x.family(0, 0, 0, 1, 0);
        x.family(0, 2, 2, 9, 0);
        x.family(0, 7, 7, 1, 2);
        due("of two by three", x.spread(0, 0, true), x.spread(0, 0, false), 2, 3);
        due("a part without any", x.spread(0, 1, true), x.spread(0, 1, false), 0, 1);
        due("a part of one", x.spread(0, 2, true), x.spread(0, 2, false), 0, 1);
        says("BETWEEN: of the TOWN in which each has what its PART has on average");
        due("1, 1 and 7", x.spread(0, 3, true), x.spread(0, 3, false), 8, 1);
        due("all in one part", town(0, 99).spread(0, 3, true), town(0, 99).spread(0, 3, false), 0, 1);
        due("each in its own", ownParts().spread(0, 3, true), ownParts().spread(0, -1, true));
        says("UNKNOWN: town, part");
        due("part 4", x.spread(0, 4, true), UNKNOWN);
        due("part -2", x.spread(0, -2, true), UNKNOWN);
    }

    private static MoreEven ownParts() {
        MoreEven x = new MoreEven();
        for (int part = 0; part < 3; part++) {
            x.family(0, part * part, part * part, 1, part);
        }
        return x;
    }

    // ---- the same people in two years

    private void years() {
        says("of which the one had more in the first TOWN and has less in the second");
        due("one pair", towns(of(1, 2), of(2, 1)).moved(0, 1), 1);
        due("alike then", towns(of(1, 2), of(2, 2)).moved(0, 1), 0);
        due("alike before", towns(of(2, 2), of(2, 1)).moved(0, 1), 0);
        due("one family", towns(of(1), of(2)).moved(0, 1), 0);
        says("How many FAMILIES more have less than one in the second TOWN, and 100 more");
        due("as many", towns(of(1, 2), of(3, 9)).rose(0, 1, 0), 100);
        due("one more", towns(of(1, 2), of(2, 1)).rose(0, 1, 0), 101);
        due("one less", towns(of(2, 1), of(1, 2)).rose(0, 1, 0), 99);
        due("those alike have not less", towns(of(1, 2), of(2, 2)).rose(0, 1, 1), 99);
        says("UNKNOWN: towns, family; STATE");
        MoreEven x = towns(of(1, 2), of(2, 1, 5));
        due("not as many", x.rose(0, 1, 0), STATE);
        due("not as many, moved", x.moved(0, 1), STATE);
        due("family 3 of none", x.rose(0, 1, 3), UNKNOWN);
        x.family(0, 5, 6, 1, 0);
        due("not known", x.rose(0, 1, 0), STATE);
        due("not known, moved", x.moved(1, 0), STATE);
        x.know(0, 2, 6, 6);
        due("known", x.rose(0, 1, 2), 100);
    }

    // ---- Terms 6

    private void bands() {
        says("of what a FAMILY HAS above FROM and not above the next BAND's FROM");
        taking(of(10, 10), of(0, 0, 10, 0, 11, 1, 99, 89));
        taking(of(99, 10), of(98, 0, 99, 0));
        taking(of(98, 10), of(98, 0, 99, 1));
        taking(of(0, 10), of(0, 0, 1, 1, 99, 99));
        taking(of(10, 10, 20, 0), of(10, 0, 11, 1, 19, 9, 20, 10, 21, 10, 99, 10));
        taking(of(20, 0, 10, 10), of(10, 0, 11, 1, 19, 9, 20, 10, 21, 10, 99, 10));
        taking(of(10, 0, 11, 10, 12, 0), of(10, 0, 11, 0, 12, 1, 13, 1));
        says("RATE (0 to 10) tenths are taken");
        taking(of(0, 0), of(0, 0, 99, 0));
        taking(of(0, 1), of(9, 0, 10, 1, 19, 1, 20, 2, 99, 9));
        taking(of(0, 9), of(1, 0, 2, 1, 10, 9, 99, 89));
        says("together cut");
        taking(of(0, 5, 1, 5), of(1, 0, 2, 1));
        taking(of(0, 3, 3, 3, 6, 3, 9, 1), of(3, 0, 4, 1, 6, 1, 7, 2, 9, 2, 12, 3));
        says("of like ones that which was told last counts alone");
        taking(of(10, 10, 10, 0), of(99, 0));
        taking(of(10, 0, 10, 10), of(11, 1, 99, 89));
        taking(of(10, 1, 20, 10, 10, 10, 20, 0), of(20, 10, 99, 10));
        rising();
        taxing();
    }

    private void taking(int[] bands, int[] hasAndDue) {
        MoreEven x = new MoreEven();
        for (int i = 0; i < bands.length; i += 2) {
            x.band(bands[i], bands[i + 1]);
        }
        for (int i = 0; i < hasAndDue.length; i += 2) {
            due("of " + hasAndDue[i], x.tax(hasAndDue[i]), hasAndDue[i + 1]);
        }
    }

    private void rising() {
        says("no less of a share from one that HAS more (1 to 99, each to the next)");
        rises(1);
        rises(1, 0, 10);
        rises(1, 99, 10);
        rises(0, 0, 9);
        // 1 by 1, then 1 by 2.
        rises(0, 0, 10, 1, 0, 2, 10);
        // 97 by 98, then 97 by 99: less only from the last but one to the last.
        rises(1, 1, 10);
        rises(0, 1, 10, 98, 0);
        rises(0, 0, 10, 98, 0);
        rises(0, 98, 0, 0, 10);
        // A tenth of the last alone: 1 by 99.
        rises(1, 89, 1);
        rises(0, 88, 1);
    }

    private void rises(int want, int... bands) {
        MoreEven x = new MoreEven();
        for (int i = 0; i < bands.length; i += 2) {
            x.band(bands[i], bands[i + 1]);
        }
        due("with " + Arrays.toString(bands), x.rises(), want);
    }

    private void taxing() {
        says("A TOWN is TAXED into another one: FAMILIES as they are, with what is left");
        MoreEven x = town(0, 10, 99);
        x.family(1, 3, 4, 9, 2);
        x.band(10, 10);
        due("taken", x.taxed(0, 1), 89);
        for (int f = 0; f < 3; f++) {
            int left = f == 0 ? 0 : 10;
            due("left to " + f, x.about(1, f, 0), x.about(1, f, 1), left, left);
            due("size and part of " + f, x.about(1, f, 2), x.about(1, f, 3), 1, 0);
        }
        due("no more families", x.town(1, 0), 3);
        says("STATE: it is not KNOWN, or both are one");
        due("both are one", x.taxed(0, 0), STATE);
        due("both are one without families", x.taxed(3, 3), STATE);
        x.know(1, 2, 10, 11);
        due("not known", x.taxed(1, 0), STATE);
        due("into one that is not known", x.taxed(0, 1), 89);
        due("it is known then", x.town(1, 1), 1);
        due("nobody", x.taxed(3, 1), 0);
        due("nobody is there then", x.town(1, 0), 0);
    }
}
