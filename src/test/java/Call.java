/** Every call of the face, its numbers told as a row (true is 1, false is 0). */
enum Call {
    FAMILY((x, n) -> x.family(n[0], n[1], n[2], n[3], n[4])),
    KNOW((x, n) -> x.know(n[0], n[1], n[2], n[3])),
    CLEAR((x, n) -> x.clear(n[0])),
    ABOUT((x, n) -> x.about(n[0], n[1], n[2])),
    TOWN((x, n) -> x.town(n[0], n[1])),
    ORDER((x, n) -> x.order(n[0], n[1], n[2], n[3])),
    WHERE((x, n) -> x.where(n[0], n[1], n[2], n[3], n[4] == 1)),
    BELOW((x, n) -> x.below(n[0], n[1], n[2], n[3], n[4] == 1)),
    COINS((x, n) -> x.coins(n[0], n[1])),
    GIVE((x, n) -> x.give(n[0], n[1], n[2], n[3])),
    WOULD((x, n) -> x.would(n[0], n[1], n[2], n[3])),
    MEASURE((x, n) -> x.measure(n[0], n[1], n[2], n[3] == 1)),
    CALLS((x, n) -> x.calls(n[0], n[1], n[2], n[3])),
    MINDS((x, n) -> x.minds(n[0], n[1])),
    AGAINST((x, n) -> x.against(n[0], n[1])),
    PART((x, n) -> x.part(n[0], n[1], n[2])),
    FILLINGS((x, n) -> x.fillings(n[0])),
    HIDDEN((x, n) -> x.hidden(n[0], n[1], n[2], n[3], n[4])),
    ASK((x, n) -> x.ask(n[0], n[1], n[2], n[3])),
    POOR((x, n) -> x.poor(n[0], n[1], n[2] == 1)),
    NEVER((x, n) -> x.never(n[0], n[1], n[2], n[3])),
    EDGE((x, n) -> x.edge(n[0], n[1], n[2], n[3])),
    SPREAD((x, n) -> x.spread(n[0], n[1], n[2] == 1)),
    MOVED((x, n) -> x.moved(n[0], n[1])),
    ROSE((x, n) -> x.rose(n[0], n[1], n[2])),
    BAND((x, n) -> x.band(n[0], n[1])),
    UNBAND((x, n) -> x.unband()),
    TAX((x, n) -> x.tax(n[0])),
    TAXED((x, n) -> x.taxed(n[0], n[1])),
    RISES((x, n) -> x.rises()),
    COUNT((x, n) -> x.count(n[0]));

    /** A call on an object, with its row of numbers. */
    interface Way {
        long answer(MoreEven x, int[] numbers);
    }

    private final Way way;

    Call(Way way) {
        this.way = way;
    }

    long on(MoreEven x, int... numbers) {
        return way.answer(x, numbers);
    }

    /** Whether it may change the object; all the others only ask. */
    boolean changes() {
        return switch (this) {
            case FAMILY, KNOW, CLEAR, GIVE, BAND, UNBAND, TAXED -> true;
            default -> false;
        };
    }
}
