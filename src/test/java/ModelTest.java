import java.util.Random;

/** Runs of calls, the same in every run of the tests, on the program and on the model: the answers are compared. */
final class ModelTest {
    private static final int RUNS = 400;
    private static final int CALLS = 512;
    private static final int COIN_RUNS = 2000;
    private static final int HIDDEN_RUNS = 2000;
    private static final int[] STRANGE = {
        -1, -2, Integer.MIN_VALUE, Integer.MAX_VALUE, 4, 8, 9, 10, 99, 100, 101, 1 << 16, -100,
    };

    private final Check check;
    private final Random random;
    private final MoreEven program = new MoreEven();
    private final Model model = new Model();
    private final int most;
    private final int hiddenOf;
    private final String run;

    private ModelTest(Check check, int run) {
        this.check = check;
        this.random = new Random(run);
        this.run = "run " + run + ": ";
        this.most = new int[] {2, 5, 20, 99}[run % 4];
        this.hiddenOf = new int[] {0, 2, 4, 9}[run / 4 % 4];
    }

    public static void main(String[] args) {
        Check check = new Check("ModelTest");
        for (int run = 0; run < RUNS && check.wrong() < 20; run++) {
            ModelTest test = new ModelTest(check, run);
            for (int call = 0; call < CALLS; call++) {
                test.callSome();
            }
        }
        for (int run = 0; run < COIN_RUNS && check.wrong() < 20; run++) {
            new ModelTest(check, run).coinsBetween();
        }
        for (int run = 0; run < HIDDEN_RUNS && check.wrong() < 20; run++) {
            new ModelTest(check, run).hiddenBetween();
        }
        check.end();
    }

    /** Two towns of which the second is made of the first by coins, some of them the wrong way. */
    private void coinsBetween() {
        int families = 1 + random.nextInt(run.length() % 2 == 0 ? 4 : 8);
        for (int f = 0; f < families; f++) {
            int has = random.nextInt(Math.min(most, 90) + 1);
            for (int town = 0; town < 2; town++) {
                program.family(town, has, has, 1, 0);
                model.family(town, has, has, 1, 0);
            }
        }
        int coins = random.nextInt(families + 2);
        for (int coin = 0; coin < coins; coin++) {
            int from = random.nextInt(families);
            int to = random.nextInt(families);
            int amount = 1 + random.nextInt(Math.max(1, most / 2));
            if (model.would(1, from, to, amount) == 1 || random.nextInt(8) == 0) {
                due("give", program.give(1, from, to, amount), model.give(1, from, to, amount),
                    1, from, to, amount);
            }
        }
        due("coins", program.coins(0, 1), model.coins(0, 1), 0, 1);
        due("coins", program.coins(1, 0), model.coins(1, 0), 1, 0);
        due("moved", program.moved(0, 1), model.moved(0, 1), 0, 1);
        for (int k = 0; k <= 8; k++) {
            due("part", program.part(0, 1, k), model.part(0, 1, k), 0, 1, k);
        }
    }

    /** Two small towns with little, so that nothing at all is among the fillings. */
    private void hiddenBetween() {
        for (int town = 0; town < 2; town++) {
            int families = 1 + random.nextInt(3);
            for (int f = 0; f < families; f++) {
                int low = random.nextInt(2) * random.nextInt(3);
                int high = low + random.nextInt(3);
                int size = 1 + random.nextInt(3);
                program.family(town, low, high, size, 0);
                model.family(town, low, high, size, 0);
            }
        }
        int scale = random.nextInt(3);
        for (int kind = 0; kind < 2; kind++) {
            int told = random.nextInt(4);
            due("hidden", program.hidden(0, 1, scale, kind, told), model.hidden(0, 1, scale, kind, told),
                0, 1, scale, kind, told);
            due("ask", program.ask(0, 1, scale, kind), model.ask(0, 1, scale, kind), 0, 1, scale, kind);
        }
    }

    private void callSome() {
        if (random.nextInt(3) == 0) {
            build();
        } else if (random.nextInt(2) == 0) {
            askTowns();
        } else {
            askRest();
        }
    }

    private void build() {
        int town = number(0, 3);
        int low = number(0, most);
        int high = random.nextInt(10) < hiddenOf ? number(low, low > 96 || low < 0 ? low : low + 3) : low;
        int family = number(0, 4);
        int size = number(1, 9);
        int part = number(0, 2);
        switch (random.nextInt(12)) {
            case 0, 1, 2, 3 -> due("family", program.family(town, low, high, size, part),
                model.family(town, low, high, size, part), town, low, high, size, part);
            case 4, 5, 6 -> due("know", program.know(town, family, low, high),
                model.know(town, family, low, high), town, family, low, high);
            case 7 -> {
                if (random.nextInt(3) == 0) due("clear", program.clear(town), model.clear(town), town);
            }
            case 8, 9 -> {
                int to = number(0, 4);
                int amount = number(1, Math.max(2, most / 3));
                due("would", program.would(town, family, to, amount),
                    model.would(town, family, to, amount), town, family, to, amount);
                due("give", program.give(town, family, to, amount),
                    model.give(town, family, to, amount), town, family, to, amount);
            }
            case 10 -> {
                int from = number(0, most);
                int rate = number(0, 10);
                due("band", program.band(from, rate), model.band(from, rate), from, rate);
                if (random.nextInt(6) == 0) due("unband", program.unband(), model.unband());
            }
            default -> {
                int to = number(0, 3);
                due("taxed", program.taxed(town, to), model.taxed(town, to), town, to);
            }
        }
        int what = number(0, 4);
        due("about", program.about(town, family, what), model.about(town, family, what), town, family, what);
        due("town", program.town(town, what), model.town(town, what), town, what);
    }

    private void askTowns() {
        int a = number(0, 3);
        int b = number(0, 3);
        int scale = number(0, 2);
        int kind = number(0, 1);
        boolean upper = random.nextBoolean();
        switch (random.nextInt(8)) {
            case 0, 1 -> due("order", program.order(a, b, scale, kind), model.order(a, b, scale, kind),
                a, b, scale, kind);
            case 2, 3 -> due("where " + upper, program.where(a, b, scale, kind, upper),
                model.where(a, b, scale, kind, upper), a, b, scale, kind);
            case 4 -> {
                int m = number(1, 100);
                int n = number(0, Math.floorMod(m, 101));
                due("below " + upper, program.below(a, scale, n, m, upper),
                    model.below(a, scale, n, m, upper), a, scale, n, m);
            }
            case 5 -> due("coins", program.coins(a, b), model.coins(a, b), a, b);
            case 6 -> {
                if (tooMany(a, b)) return;
                int told = number(0, 3);
                due("hidden", program.hidden(a, b, scale, kind, told), model.hidden(a, b, scale, kind, told),
                    a, b, scale, kind, told);
            }
            default -> {
                if (tooMany(a, b)) return;
                due("ask", program.ask(a, b, scale, kind), model.ask(a, b, scale, kind), a, b, scale, kind);
            }
        }
    }

    /** The model is slow: of the towns that it could try, it tries those with few pairs. */
    private boolean tooMany(int a, int b) {
        double pairs = (double) model.fillings(a) * model.fillings(b);
        return pairs > 128 && pairs <= 4096;
    }

    private void askRest() {
        int a = number(0, 3);
        int b = number(0, 3);
        int kind = number(0, 5);
        int k = kind == 2 ? number(0, 8) : kind == 3 || kind == 4 ? number(0, most) : number(0, 0);
        int line = number(0, 100);
        int way = number(0, 1);
        boolean upper = random.nextBoolean();
        switch (random.nextInt(17)) {
            case 0, 1 -> due("measure " + upper, program.measure(a, kind, k, upper),
                model.measure(a, kind, k, upper), a, kind, k);
            case 2 -> due("calls", program.calls(a, b, kind, k), model.calls(a, b, kind, k), a, b, kind, k);
            case 3 -> due("minds", program.minds(kind, k), model.minds(kind, k), kind, k);
            case 4 -> due("against", program.against(kind, k), model.against(kind, k), kind, k);
            case 5 -> {
                int told = number(0, 8);
                due("part", program.part(a, b, told), model.part(a, b, told), a, b, told);
            }
            case 6 -> due("fillings", program.fillings(a), model.fillings(a), a);
            case 7 -> due("poor " + upper, program.poor(a, line, upper), model.poor(a, line, upper), a, line);
            case 8 -> due("never", program.never(a, b, line, way), model.never(a, b, line, way), a, b, line, way);
            case 9 -> due("edge", program.edge(a, b, line, way), model.edge(a, b, line, way), a, b, line, way);
            case 10, 11 -> {
                int part = number(-1, 3);
                due("spread " + upper, program.spread(a, part, upper), model.spread(a, part, upper), a, part);
            }
            case 12 -> due("moved", program.moved(a, b), model.moved(a, b), a, b);
            case 13 -> {
                int family = number(0, 4);
                due("rose", program.rose(a, b, family), model.rose(a, b, family), a, b, family);
            }
            case 14 -> {
                int has = number(0, 99);
                due("tax", program.tax(has), model.tax(has), has);
            }
            case 15 -> due("rises", program.rises(), model.rises());
            default -> {
                int what = number(0, 2);
                due("count", program.count(what), model.count(what), what);
            }
        }
    }

    /** A number of a range, now and then one that may lie outside. */
    private int number(int least, int greatest) {
        if (random.nextInt(60) == 0) {
            return STRANGE[random.nextInt(STRANGE.length)];
        }
        return greatest <= least ? least : least + random.nextInt(greatest - least + 1);
    }

    private void due(String call, long got, long want, int... numbers) {
        StringBuilder text = new StringBuilder(run).append(call);
        for (int number : numbers) {
            text.append(' ').append(number);
        }
        check.due(text.toString(), got, want);
    }
}
