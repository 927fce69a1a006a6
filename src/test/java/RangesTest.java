import java.util.Arrays;

/**
 * Of each number of each call: the least and the greatest that are allowed, with the answers that are due,
 * and those beyond them on both sides, which are refused and change nothing.
 */
final class RangesTest {
    private static final int UNKNOWN = MoreEven.UNKNOWN;
    private static final int OUTSIDE = MoreEven.OUTSIDE;
    private static final int STATE = MoreEven.STATE;
    private static final int NONE = MoreEven.NONE;

    private final Check check = new Check("RangesTest");
    private final String untouched = Sight.of(fourTowns());

    private RangesTest() {
    }

    public static void main(String[] args) {
        RangesTest test = new RangesTest();
        test.towns();
        test.orders();
        test.coins();
        test.measures();
        test.hidden();
        test.poorAndSpread();
        test.yearsAndTaxes();
        test.check.end();
    }

    /** Four known towns of three families, each with 15 together; above 5 all is taken, above 8 nothing. */
    private static MoreEven fourTowns() {
        MoreEven x = new MoreEven();
        int[][] families = {
            {0, 1, 1, 0}, {0, 4, 2, 0}, {0, 10, 5, 1},
            {1, 3, 1, 0}, {1, 5, 1, 1}, {1, 7, 1, 2},
            {2, 0, 1, 0}, {2, 0, 1, 0}, {2, 15, 9, 0},
            {3, 5, 1, 2}, {3, 5, 1, 2}, {3, 5, 1, 2},
        };
        for (int[] f : families) {
            x.family(f[0], f[1], f[1], f[2], f[3]);
        }
        x.band(5, 10);
        x.band(8, 0);
        return x;
    }

    /** The number that is looked at: from the least to the greatest, and what is due at both. */
    private record Range(int index, int least, int greatest, int refusal) {
    }

    private static Range of(int index, int least, int greatest, int refusal) {
        return new Range(index, least, greatest, refusal);
    }

    private void range(Call call, Range range, long atLeast, long atGreatest, int... numbers) {
        answers(call, range, range.least, atLeast, numbers);
        answers(call, range, range.greatest, atGreatest, numbers);
        refuses(call, range, range.least - 1, numbers);
        refuses(call, range, range.greatest + 1, numbers);
        refuses(call, range, Integer.MIN_VALUE, numbers);
        refuses(call, range, Integer.MAX_VALUE, numbers);
    }

    private MoreEven answers(Call call, Range range, int number, long due, int... numbers) {
        int[] told = numbers.clone();
        told[range.index] = number;
        MoreEven x = fourTowns();
        check.due(call + Arrays.toString(told), call.on(x, told), due);
        return x;
    }

    private void refuses(Call call, Range range, int number, int... numbers) {
        MoreEven x = answers(call, range, number, range.refusal, numbers);
        check.holds(call + " with " + number + " at " + range.index + " changes nothing",
            Sight.of(x).equals(untouched));
    }

    private void towns() {
        range(Call.FAMILY, of(0, 0, 3, UNKNOWN), 4, 4, 0, 20, 30, 2, 1);
        range(Call.FAMILY, of(1, 0, 99, OUTSIDE), 4, 4, 0, 0, 99, 2, 1);
        range(Call.FAMILY, of(2, 20, 99, OUTSIDE), 4, 4, 0, 20, 0, 2, 1);
        range(Call.FAMILY, of(2, 0, 99, OUTSIDE), 4, 4, 0, 0, 0, 2, 1);
        range(Call.FAMILY, of(3, 1, 9, OUTSIDE), 4, 4, 0, 20, 30, 0, 1);
        range(Call.FAMILY, of(4, 0, 2, UNKNOWN), 4, 4, 0, 20, 30, 2, 0);
        range(Call.KNOW, of(0, 0, 3, UNKNOWN), 101, 505, 0, 0, 20, 30);
        range(Call.KNOW, of(1, 0, 2, UNKNOWN), 101, 1010, 0, 0, 20, 30);
        range(Call.KNOW, of(2, 0, 99, OUTSIDE), 101, 101, 0, 0, 0, 99);
        range(Call.KNOW, of(3, 20, 99, OUTSIDE), 101, 101, 0, 0, 20, 0);
        range(Call.KNOW, of(3, 0, 99, OUTSIDE), 101, 101, 0, 0, 0, 0);
        range(Call.CLEAR, of(0, 0, 3, UNKNOWN), 3, 3, 0);
        range(Call.ABOUT, of(0, 0, 3, UNKNOWN), 10, 5, 0, 2, 0);
        range(Call.ABOUT, of(1, 0, 2, UNKNOWN), 1, 10, 0, 0, 0);
        range(Call.ABOUT, of(2, 0, 3, OUTSIDE), 10, 1, 0, 2, 0);
        range(Call.TOWN, of(0, 0, 3, UNKNOWN), 8, 3, 0, 2);
        range(Call.TOWN, of(1, 0, 4, OUTSIDE), 3, 15, 0, 0);
    }

    private void orders() {
        range(Call.ORDER, of(0, 0, 3, UNKNOWN), 2, 1, 0, 1, 0, 0);
        range(Call.ORDER, of(1, 0, 3, UNKNOWN), 3, 2, 0, 0, 0, 0);
        range(Call.ORDER, of(2, 0, 2, OUTSIDE), 2, 0, 0, 1, 0, 0);
        range(Call.ORDER, of(3, 0, 1, OUTSIDE), 2, 2, 0, 1, 0, 0);
        range(Call.WHERE, of(0, 0, 3, UNKNOWN), NONE, 1, 0, 0, 0, 0, 1);
        range(Call.WHERE, of(0, 0, 3, UNKNOWN), NONE, 3, 0, 0, 0, 0, 0);
        range(Call.WHERE, of(1, 0, 3, UNKNOWN), 1, NONE, 1, 0, 0, 0, 1);
        range(Call.WHERE, of(1, 0, 3, UNKNOWN), 3, NONE, 1, 0, 0, 0, 0);
        // By scale 2 one of the eight heads of town 0 has 1 of 23, an eighth of town 1 has 9/8 of 15.
        range(Call.WHERE, of(2, 0, 2, OUTSIDE), 1, 1, 1, 0, 0, 0, 1);
        range(Call.WHERE, of(2, 0, 2, OUTSIDE), 3, 8, 1, 0, 0, 0, 0);
        range(Call.WHERE, of(3, 0, 1, OUTSIDE), 3, 3, 1, 0, 0, 0, 0);
        range(Call.BELOW, of(0, 0, 3, UNKNOWN), 5, 2, 0, 0, 1, 2, 0);
        // By scale 2 four of eight heads have 1, 16/3 and 10/3 of 23 together.
        range(Call.BELOW, of(1, 0, 2, OUTSIDE), 1, 29, 0, 0, 1, 2, 1);
        range(Call.BELOW, of(1, 0, 2, OUTSIDE), 5, 69, 0, 0, 1, 2, 0);
        range(Call.BELOW, of(2, 0, 100, OUTSIDE), 0, 1, 0, 0, 0, 100, 1);
        range(Call.BELOW, of(2, 0, 100, OUTSIDE), 1, 1, 0, 0, 0, 100, 0);
        range(Call.BELOW, of(2, 0, 1, OUTSIDE), 0, 1, 0, 0, 0, 1, 1);
        // A hundredth of three families is 3/100 of the one that has 1.
        range(Call.BELOW, of(3, 1, 100, OUTSIDE), 1, 500, 0, 0, 1, 0, 0);
        range(Call.BELOW, of(3, 1, 100, OUTSIDE), 0, 0, 0, 0, 0, 0, 1);
        // No less than n: at 70 by 70 it is all, at 70 by 100 of like ones as much of what they have.
        range(Call.BELOW, of(3, 70, 100, OUTSIDE), 1, 7, 3, 0, 70, 0, 1);
    }

    private void coins() {
        range(Call.COINS, of(0, 0, 3, UNKNOWN), 2, NONE, 0, 1);
        range(Call.COINS, of(1, 0, 3, UNKNOWN), 0, 2, 0, 0);
        for (Call call : new Call[] {Call.GIVE, Call.WOULD}) {
            range(call, of(0, 0, 3, UNKNOWN), 1, 0, 0, 2, 0, 1);
            range(call, of(1, 0, 2, UNKNOWN), 0, 1, 0, 0, 1, 1);
            range(call, of(2, 0, 2, UNKNOWN), 1, 0, 0, 1, 0, 1);
            range(call, of(3, 1, 99, OUTSIDE), 1, STATE, 0, 2, 0, 0);
        }
    }

    private void measures() {
        range(Call.MEASURE, of(0, 0, 3, UNKNOWN), 9, 0, 0, 0, 0, 1);
        range(Call.MEASURE, of(1, 0, 5, OUTSIDE), 9, 126, 0, 0, 0, 1);
        numbersOf(Call.MEASURE, 2, new long[][] {{9, 9}, {18, 18}, {0, 1}, {0, 1}, {0, 94}, {126, 126}}, 0, 0, 0, 1);
        numbersOf(Call.MEASURE, 2, new long[][] {{1, 1}, {1, 1}, {1, 1}, {1, 1}, {1, 1}, {1, 1}}, 0, 0, 0, 0);
        range(Call.CALLS, of(0, 0, 3, UNKNOWN), 2, 1, 0, 1, 0, 0);
        range(Call.CALLS, of(1, 0, 3, UNKNOWN), 3, 2, 0, 0, 0, 0);
        range(Call.CALLS, of(2, 0, 5, OUTSIDE), 2, 2, 0, 1, 0, 0);
        numbersOf(Call.CALLS, 3, new long[][] {{2, 2}, {2, 2}, {3, 3}, {3, 3}, {3, 3}, {2, 2}}, 0, 1, 0, 0);
        range(Call.MINDS, of(0, 0, 5, OUTSIDE), 1, 1, 0, 0);
        numbersOf(Call.MINDS, 1, new long[][] {{1, 1}, {1, 1}, {1, 1}, {1, 1}, {1, 1}, {1, 1}}, 0, 0);
        range(Call.AGAINST, of(0, 0, 5, OUTSIDE), NONE, NONE, 0, 0);
        long[] none = {NONE, NONE};
        numbersOf(Call.AGAINST, 1, new long[][] {none, none, none, none, none, none}, 0, 0);
        range(Call.PART, of(0, 0, 3, UNKNOWN), 3, NONE, 0, 1, 8);
        range(Call.PART, of(1, 0, 3, UNKNOWN), 3, NONE, 1, 0, 8);
        // Less than 8 have two of 1, 4, 10, but all of 3, 5, 7, which differ less.
        range(Call.PART, of(2, 0, 8, OUTSIDE), NONE, 3, 0, 1, 0);
    }

    /** k of each kind, which stands ahead of it: 0 alone, where it does not matter. */
    private void numbersOf(Call call, int index, long[][] due, int... numbers) {
        int[] greatest = {0, 0, 8, 99, 99, 0};
        for (int kind = 0; kind < 6; kind++) {
            int[] told = numbers.clone();
            told[index - 1] = kind;
            range(call, of(index, 0, greatest[kind], OUTSIDE), due[kind][0], due[kind][1], told);
        }
    }

    private void hidden() {
        range(Call.FILLINGS, of(0, 0, 3, UNKNOWN), 1, 1, 0);
        range(Call.HIDDEN, of(0, 0, 3, UNKNOWN), 1, 0, 0, 1, 0, 0, 2);
        range(Call.HIDDEN, of(1, 0, 3, UNKNOWN), 0, 1, 1, 0, 0, 0, 2);
        range(Call.HIDDEN, of(2, 0, 2, OUTSIDE), 1, 0, 0, 1, 0, 0, 2);
        range(Call.HIDDEN, of(3, 0, 1, OUTSIDE), 1, 1, 0, 1, 0, 0, 2);
        // By heads neither of both is ahead.
        range(Call.HIDDEN, of(4, 0, 3, OUTSIDE), 1, 0, 0, 1, 1, 0, 0);
        range(Call.ASK, of(0, 0, 3, UNKNOWN), NONE, NONE, 0, 1, 0, 0);
        range(Call.ASK, of(1, 0, 3, UNKNOWN), NONE, NONE, 1, 0, 0, 0);
        range(Call.ASK, of(2, 0, 2, OUTSIDE), NONE, NONE, 0, 1, 0, 0);
        range(Call.ASK, of(3, 0, 1, OUTSIDE), NONE, NONE, 0, 1, 0, 0);
    }

    private void poorAndSpread() {
        range(Call.POOR, of(0, 0, 3, UNKNOWN), 2, 0, 0, 5, 0);
        range(Call.POOR, of(1, 0, 100, OUTSIDE), 0, 3, 0, 0, 0);
        range(Call.POOR, of(1, 0, 100, OUTSIDE), 0, 285, 0, 0, 1);
        range(Call.NEVER, of(0, 0, 3, UNKNOWN), 0, 1, 0, 1, 5, 0);
        range(Call.NEVER, of(1, 0, 3, UNKNOWN), 1, 0, 0, 0, 5, 0);
        range(Call.NEVER, of(2, 0, 100, OUTSIDE), 1, 0, 0, 1, 0, 0);
        range(Call.NEVER, of(3, 0, 1, OUTSIDE), 0, 0, 0, 1, 5, 0);
        range(Call.EDGE, of(0, 0, 3, UNKNOWN), 2, NONE, 0, 1, 5, 0);
        range(Call.EDGE, of(1, 0, 3, UNKNOWN), NONE, 2, 0, 0, 5, 0);
        range(Call.EDGE, of(2, 0, 100, OUTSIDE), NONE, 2, 0, 1, 0, 0);
        range(Call.EDGE, of(3, 0, 1, OUTSIDE), 2, 2, 0, 1, 5, 0);
        range(Call.SPREAD, of(0, 0, 3, UNKNOWN), 14, 0, 0, -1, 1);
        range(Call.SPREAD, of(1, -1, 3, UNKNOWN), 14, 25, 0, 0, 1);
        range(Call.SPREAD, of(1, -1, 3, UNKNOWN), 1, 2, 0, 0, 0);
    }

    private void yearsAndTaxes() {
        range(Call.MOVED, of(0, 0, 3, UNKNOWN), 0, 0, 0, 1);
        range(Call.MOVED, of(1, 0, 3, UNKNOWN), 0, 0, 1, 0);
        range(Call.ROSE, of(0, 0, 3, UNKNOWN), 100, 102, 0, 1, 2);
        range(Call.ROSE, of(1, 0, 3, UNKNOWN), 102, 100, 3, 0, 2);
        range(Call.ROSE, of(2, 0, 2, UNKNOWN), 100, 102, 3, 1, 0);
        range(Call.BAND, of(0, 0, 99, OUTSIDE), 3, 3, 0, 5);
        range(Call.BAND, of(1, 0, 10, OUTSIDE), 3, 3, 50, 0);
        range(Call.TAX, of(0, 0, 99, OUTSIDE), 0, 3, 0);
        range(Call.TAXED, of(0, 0, 3, UNKNOWN), 3, 0, 0, 1);
        range(Call.TAXED, of(1, 0, 3, UNKNOWN), 3, 3, 2, 0);
        range(Call.COUNT, of(0, 0, 2, OUTSIDE), 12, 2, 0);
    }
}
