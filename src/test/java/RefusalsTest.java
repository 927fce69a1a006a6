import java.util.Arrays;

/**
 * Each refusal that a call names, alone and with every other one: of several that hold at once the first that
 * it names is told. What is refused changes nothing, and what only asks changes nothing either.
 */
final class RefusalsTest {
    private static final int UNKNOWN = MoreEven.UNKNOWN;
    private static final int OUTSIDE = MoreEven.OUTSIDE;
    private static final int STATE = MoreEven.STATE;
    private static final int FULL = MoreEven.FULL;
    private static final int FINE = -100;

    private final Check check = new Check("RefusalsTest");
    private boolean fourBands;
    private String untouched = Sight.of(towns());

    private RefusalsTest() {
    }

    public static void main(String[] args) {
        RefusalsTest test = new RefusalsTest();
        test.townsAndFamilies();
        test.orders();
        test.coins();
        test.measures();
        test.hidden();
        test.poorAndSpread();
        test.yearsAndTaxes();
        test.bandsThatAreFull();
        test.fractionsLikewise();
        test.check.end();
    }

    /** Towns 0 and 1 are known, with 15 together; town 2 is full and not known; town 3 has no families. */
    private MoreEven towns() {
        MoreEven x = new MoreEven();
        for (int has : new int[] {1, 4, 10}) {
            x.family(0, has, has, 1 + has / 4, has / 4);
        }
        for (int has : new int[] {3, 5, 7}) {
            x.family(1, has, has, 2, 1);
        }
        for (int f = 0; f < 8; f++) {
            x.family(2, f, f / 7 + f, 3, 0);
        }
        for (int b = 0; b < (fourBands ? 4 : 2); b++) {
            x.band(10 * b, b + 1);
        }
        return x;
    }

    /** What a number may be: each with the refusal that it brings, which is FINE for none. */
    private record Number(int[] values, int[] refusals) {
    }

    private static Number number(int... valuesAndRefusals) {
        int length = valuesAndRefusals.length / 2;
        int[] values = new int[length];
        int[] refusals = new int[length];
        for (int i = 0; i < length; i++) {
            values[i] = valuesAndRefusals[2 * i];
            refusals[i] = valuesAndRefusals[2 * i + 1];
        }
        return new Number(values, refusals);
    }

    /** A number from least to greatest, and those beyond. */
    private static Number from(int least, int greatest, int refusal) {
        return number(least, FINE, greatest, FINE, least - 1, refusal, greatest + 1, refusal,
            Integer.MIN_VALUE, refusal, Integer.MAX_VALUE, refusal);
    }

    /** A town that must be known and have families. */
    private static Number ready(int town) {
        return number(town, FINE, 2, STATE, 3, STATE, -1, UNKNOWN, 4, UNKNOWN);
    }

    private static final Number UPPER = number(0, FINE, 1, FINE);

    private void all(Call call, Number... numbers) {
        tryFrom(call, numbers, new int[numbers.length], 0, FINE);
    }

    /** The refusals are named in the order -1, -2, -3, -4 in every call: the first is the greatest number. */
    private void tryFrom(Call call, Number[] numbers, int[] told, int index, int due) {
        if (index == numbers.length) {
            answers(call, told, due);
            return;
        }
        Number number = numbers[index];
        for (int i = 0; i < number.values.length; i++) {
            told[index] = number.values[i];
            tryFrom(call, numbers, told, index + 1, Math.max(due, number.refusals[i]));
        }
    }

    private void answers(Call call, int[] told, int due) {
        MoreEven x = towns();
        long got = call.on(x, told);
        String what = call + Arrays.toString(told);
        if (due == FINE) {
            check.holds(what + " is not refused, but " + got, got >= 0 || got == MoreEven.NONE);
        } else {
            check.due(what, got, due);
        }
        if (due != FINE || !call.changes()) {
            check.holds(what + " changes nothing", Sight.of(x).equals(untouched));
        }
    }

    private void townsAndFamilies() {
        Number town = number(0, FINE, 3, FINE, 2, FULL, -1, UNKNOWN, 4, UNKNOWN);
        Number part = number(0, FINE, 2, FINE, -1, UNKNOWN, 3, UNKNOWN);
        Number low = number(50, FINE, -1, OUTSIDE, 100, OUTSIDE, 61, OUTSIDE);
        Number high = number(60, FINE, 100, OUTSIDE, 49, OUTSIDE);
        all(Call.FAMILY, town, low, high, number(1, FINE, 9, FINE, 0, OUTSIDE, 10, OUTSIDE), part);
        Number home = number(0, FINE, 2, FINE, 3, UNKNOWN, -1, UNKNOWN, 4, UNKNOWN);
        Number family = number(0, FINE, 2, FINE, -1, UNKNOWN, 8, UNKNOWN);
        all(Call.KNOW, home, family, low, high);
        all(Call.ABOUT, home, family, from(0, 3, OUTSIDE));
        all(Call.CLEAR, from(0, 3, UNKNOWN));
        all(Call.TOWN, from(0, 3, UNKNOWN), from(0, 4, OUTSIDE));
    }

    private void orders() {
        Number scale = number(0, FINE, 1, FINE, 2, FINE, -1, OUTSIDE, 3, OUTSIDE);
        Number kind = number(0, FINE, 1, FINE, -1, OUTSIDE, 2, OUTSIDE);
        all(Call.ORDER, ready(0), ready(1), scale, kind);
        all(Call.WHERE, ready(0), ready(1), scale, kind, UPPER);
        Number n = number(0, FINE, 1, FINE, -1, OUTSIDE, 101, OUTSIDE);
        Number m = number(1, FINE, 100, FINE, 0, OUTSIDE, -1, OUTSIDE, 101, OUTSIDE);
        all(Call.BELOW, ready(0), scale, n, m, UPPER);
    }

    private void coins() {
        // Town 3 has not as many as town 1, and is known: with itself it would not be refused.
        all(Call.COINS, ready(0), number(1, FINE, 2, STATE, -1, UNKNOWN, 4, UNKNOWN));
        all(Call.COINS, number(0, FINE, 2, STATE, -1, UNKNOWN, 4, UNKNOWN), ready(1));
        Number town = number(0, FINE, 2, STATE, 3, UNKNOWN, -1, UNKNOWN, 4, UNKNOWN);
        Number from = number(2, FINE, -1, UNKNOWN, 8, UNKNOWN);
        Number to = number(0, FINE, 2, STATE, -1, UNKNOWN, 8, UNKNOWN);
        Number amount = number(1, FINE, 10, FINE, 11, STATE, 99, STATE, 0, OUTSIDE, 100, OUTSIDE, -1, OUTSIDE);
        all(Call.GIVE, town, from, to, amount);
        all(Call.WOULD, town, from, to, amount);
    }

    private void measures() {
        int[] greatest = {0, 0, 8, 99, 99, 0};
        for (int kind = 0; kind < 6; kind++) {
            Number one = number(kind, FINE, -1, OUTSIDE, 6, OUTSIDE);
            Number k = from(0, greatest[kind], OUTSIDE);
            all(Call.MEASURE, ready(0), one, k, UPPER);
            all(Call.CALLS, ready(0), ready(1), one, k);
            all(Call.MINDS, one, k);
            all(Call.AGAINST, one, k);
        }
        all(Call.PART, ready(0), ready(1), from(0, 8, OUTSIDE));
    }

    private void hidden() {
        all(Call.FILLINGS, from(0, 3, UNKNOWN));
        // Town 2 is not known, which is fine here; both towns may not be one, or without families.
        Number first = number(0, FINE, 2, FINE, 3, STATE, -1, UNKNOWN, 4, UNKNOWN);
        Number second = number(1, FINE, 3, STATE, -1, UNKNOWN, 4, UNKNOWN);
        Number kind = number(0, FINE, 1, FINE, -1, OUTSIDE, 2, OUTSIDE);
        Number told = number(0, FINE, 3, FINE, -1, OUTSIDE, 4, OUTSIDE);
        all(Call.HIDDEN, first, second, number(2, FINE, -1, OUTSIDE, 3, OUTSIDE), kind, told);
        all(Call.ASK, first, second, from(0, 2, OUTSIDE), kind);
        for (int one = 0; one < 4; one++) {
            Number same = number(one, STATE);
            all(Call.HIDDEN, same, same, from(0, 2, OUTSIDE), kind, told);
            all(Call.ASK, same, same, from(0, 2, OUTSIDE), kind);
        }
    }

    private void poorAndSpread() {
        Number kind = number(0, FINE, 1, FINE, -1, OUTSIDE, 2, OUTSIDE);
        // Without families a town is known: then nobody is poor.
        Number known = number(0, FINE, 3, FINE, 2, STATE, -1, UNKNOWN, 4, UNKNOWN);
        all(Call.POOR, known, from(0, 100, OUTSIDE), UPPER);
        all(Call.NEVER, ready(0), ready(1), from(0, 100, OUTSIDE), kind);
        all(Call.EDGE, ready(0), ready(1), from(0, 100, OUTSIDE), kind);
        all(Call.SPREAD, ready(0), from(-1, 3, UNKNOWN), UPPER);
    }

    private void yearsAndTaxes() {
        all(Call.MOVED, ready(0), number(1, FINE, 2, STATE, -1, UNKNOWN, 4, UNKNOWN));
        all(Call.MOVED, number(0, FINE, 2, STATE, -1, UNKNOWN, 4, UNKNOWN), ready(1));
        Number first = number(0, FINE, 2, STATE, 3, UNKNOWN, -1, UNKNOWN, 4, UNKNOWN);
        Number second = number(1, FINE, 2, STATE, 3, UNKNOWN, -1, UNKNOWN, 4, UNKNOWN);
        all(Call.ROSE, first, second, number(0, FINE, 2, FINE, -1, UNKNOWN, 8, UNKNOWN));
        all(Call.BAND, from(0, 99, OUTSIDE), from(0, 10, OUTSIDE));
        all(Call.UNBAND);
        all(Call.TAX, from(0, 99, OUTSIDE));
        Number to = number(1, FINE, 2, FINE, 3, FINE, 0, STATE, -1, UNKNOWN, 4, UNKNOWN);
        all(Call.TAXED, number(0, FINE, -1, UNKNOWN, 4, UNKNOWN), to);
        all(Call.TAXED, number(2, STATE, -1, UNKNOWN, 4, UNKNOWN), to);
        all(Call.TAXED, number(3, FINE), number(0, FINE, 3, STATE, 4, UNKNOWN));
        all(Call.RISES);
        all(Call.COUNT, from(0, 2, OUTSIDE));
    }

    private void bandsThatAreFull() {
        fourBands = true;
        untouched = Sight.of(towns());
        all(Call.BAND, number(0, FULL, 99, FULL, -1, OUTSIDE, 100, OUTSIDE),
            number(0, FULL, 10, FULL, -1, OUTSIDE, 11, OUTSIDE));
        fourBands = false;
        untouched = Sight.of(towns());
    }

    /** Refusals of FRACTIONS are told above and below alike; so is NONE. */
    private void fractionsLikewise() {
        int[][] where = {{4, 0, 0, 0}, {0, 1, 3, 0}, {0, 1, 0, 2}, {0, 2, 0, 0}, {0, 3, 0, 0}, {0, 1, 0, 0}};
        int[] dueWhere = {UNKNOWN, OUTSIDE, OUTSIDE, STATE, STATE, MoreEven.NONE};
        MoreEven x = towns();
        for (int i = 0; i < where.length; i++) {
            for (int upper = 0; upper < 2; upper++) {
                int[] n = where[i];
                check.due("where " + Arrays.toString(n) + upper, x.where(n[0], n[1], n[2], n[3], upper == 1),
                    dueWhere[i]);
            }
        }
        for (boolean upper : new boolean[] {true, false}) {
            check.due("below", x.below(4, 0, 0, 1, upper), UNKNOWN);
            check.due("below", x.below(0, 0, 0, 0, upper), OUTSIDE);
            check.due("below", x.below(3, 0, 0, 1, upper), STATE);
            check.due("measure", x.measure(4, 0, 0, upper), UNKNOWN);
            check.due("measure", x.measure(0, 0, 1, upper), OUTSIDE);
            check.due("measure", x.measure(3, 0, 0, upper), STATE);
            check.due("spread", x.spread(4, 0, upper), UNKNOWN);
            check.due("spread", x.spread(0, 4, upper), UNKNOWN);
            check.due("spread", x.spread(3, 0, upper), STATE);
        }
    }
}
