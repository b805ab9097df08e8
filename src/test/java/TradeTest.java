/** Promises 14 to 16: obligation, trade, trades. */
public final class TradeTest {
    private static final int LOW = Integer.MIN_VALUE;
    private static final int HIGH = Integer.MAX_VALUE;

    public static void main(String[] args) {
        aTradeMovesItsHoursAlone();
        theLeastOfTheHoursIsAnswered();
        tradesChangeNeitherIncomeNorBought();
        aTradeThatIsTooLargeChangesNothing();
        whatWasTradedCanBeTradedOn();
        tradesOfTheFirstAndLast();
        wrongIndexes();
        wrongArguments();
        theFirstExceptionGoesFirst();
        Checks.finish();
    }

    /** Party 0 has 90, party 1 has 50, both in the years 0 and 1. */
    private static CapacityRound market() {
        CapacityRound x = new CapacityRound();
        x.offer(0, 90, 100, 10, 2);
        x.offer(1, 50, 100, 10, 2);
        x.run(0);
        return x;
    }

    private static void dueHours(String what, CapacityRound x, int party, int year, int... want) {
        for (int hour = 0; hour < 12; hour++) {
            Checks.due(what + ": obligation(" + party + ", " + year + ", " + hour + ")",
                    x.obligation(party, year, hour), want[hour]);
        }
    }

    private static void aTradeMovesItsHoursAlone() {
        CapacityRound x = market();
        Checks.due("trade", x.trade(0, 4, 0, 2, 4, 30), 60);
        dueHours("behind a trade", x, 0, 0, 90, 90, 60, 60, 60, 90, 90, 90, 90, 90, 90, 90);
        dueHours("behind a trade", x, 4, 0, 0, 0, 30, 30, 30, 0, 0, 0, 0, 0, 0, 0);
        dueHours("behind a trade", x, 1, 0, 50, 50, 50, 50, 50, 50, 50, 50, 50, 50, 50, 50);
        dueHours("the year behind", x, 0, 1, 90, 90, 90, 90, 90, 90, 90, 90, 90, 90, 90, 90);
        dueHours("the year behind", x, 4, 1, 0, 0, 0, 0, 0, 0, 0, 0, 0, 0, 0, 0);
        Checks.due("trades()", x.trades(), 1);
    }

    private static void theLeastOfTheHoursIsAnswered() {
        CapacityRound x = market();
        Checks.due("one hour", x.trade(0, 1, 0, 5, 5, 40), 50);
        Checks.due("least at the end", x.trade(0, 1, 0, 4, 5, 10), 40);
        Checks.due("least at the start", x.trade(0, 1, 0, 5, 6, 10), 30);
        Checks.due("least in the middle", x.trade(0, 1, 0, 0, 11, 30), 0);
        dueHours("behind four trades", x, 0, 0, 60, 60, 60, 60, 50, 0, 50, 60, 60, 60, 60, 60);
        dueHours("behind four trades", x, 1, 0, 80, 80, 80, 80, 90, 140, 90, 80, 80, 80, 80, 80);
        Checks.due("trades()", x.trades(), 4);
    }

    private static void tradesChangeNeitherIncomeNorBought() {
        CapacityRound x = market();
        x.trade(0, 2, 0, 0, 11, 90);
        Checks.due("income(0, 0)", x.income(0, 0), 900);
        Checks.due("income(2, 0)", x.income(2, 0), 0);
        Checks.due("bought(0)", x.bought(0), 140);
        x.offer(2, 10, 100, 5, 1);
        x.run(0);
        Checks.due("an auction behind a trade adds up", x.obligation(2, 0, 3), 100);
        Checks.due("bought(0)", x.bought(0), 150);
        Checks.due("income(2, 0)", x.income(2, 0), 50);
    }

    private static void aTradeThatIsTooLargeChangesNothing() {
        CapacityRound x = market();
        x.trade(0, 1, 0, 7, 7, 30);
        Checks.dueThrow("61 of 60 in the last hour", Checks.STATE, () -> x.trade(0, 4, 0, 5, 7, 61));
        Checks.dueThrow("61 of 60 in the first hour", Checks.STATE, () -> x.trade(0, 4, 0, 7, 9, 61));
        Checks.dueThrow("61 of 60 in between", Checks.STATE, () -> x.trade(0, 4, 0, 0, 11, 61));
        dueHours("behind trades that threw", x, 0, 0, 90, 90, 90, 90, 90, 90, 90, 60, 90, 90, 90, 90);
        dueHours("behind trades that threw", x, 4, 0, 0, 0, 0, 0, 0, 0, 0, 0, 0, 0, 0, 0);
        Checks.due("trades()", x.trades(), 1);
        Checks.due("all of the 60", x.trade(0, 4, 0, 5, 7, 60), 0);
        Checks.dueThrow("1 of 0", Checks.STATE, () -> x.trade(0, 4, 0, 7, 7, 1));
        Checks.due("trades()", x.trades(), 2);
    }

    private static void whatWasTradedCanBeTradedOn() {
        CapacityRound x = market();
        x.trade(0, 3, 1, 0, 5, 20);
        Checks.due("on to another", x.trade(3, 2, 1, 3, 5, 20), 0);
        Checks.due("and back", x.trade(2, 0, 1, 4, 4, 5), 15);
        dueHours("behind three trades", x, 0, 1, 70, 70, 70, 70, 75, 70, 90, 90, 90, 90, 90, 90);
        dueHours("behind three trades", x, 3, 1, 20, 20, 20, 0, 0, 0, 0, 0, 0, 0, 0, 0);
        dueHours("behind three trades", x, 2, 1, 0, 0, 0, 20, 15, 20, 0, 0, 0, 0, 0, 0);
        Checks.dueThrow("hour 6 was not traded", Checks.STATE, () -> x.trade(2, 0, 1, 5, 6, 1));
    }

    private static void tradesOfTheFirstAndLast() {
        CapacityRound x = new CapacityRound();
        x.setDemand(1000, 1001, 1000);
        x.offer(4, 300, 100, 0, 1);
        x.offer(4, 300, 100, 0, 1);
        x.offer(4, 300, 100, 0, 1);
        x.offer(4, 100, 100, 0, 1);
        Checks.due("run(7)", x.run(7), 4);
        Checks.due("the largest trade", x.trade(4, 0, 7, 0, 11, 1000), 0);
        Checks.due("obligation(0, 7, 11)", x.obligation(0, 7, 11), 1000);
        Checks.due("the smallest trade", x.trade(0, 4, 7, 11, 11, 1), 999);
        Checks.due("obligation(4, 7, 11)", x.obligation(4, 7, 11), 1);
        Checks.due("obligation(4, 7, 10)", x.obligation(4, 7, 10), 0);
        Checks.due("obligation(0, 0, 0)", x.obligation(0, 0, 0), 0);
    }

    private static void wrongIndexes() {
        CapacityRound x = market();
        int[][] cells = {
            {-1, 0, 0}, {5, 0, 0}, {0, -1, 0}, {0, 8, 0}, {0, 0, -1}, {0, 0, 12},
            {LOW, 0, 0}, {HIGH, 0, 0}, {0, LOW, 0}, {0, HIGH, 0}, {0, 0, LOW}, {0, 0, HIGH},
        };
        for (int[] c : cells) {
            Checks.dueThrow("obligation(" + c[0] + ", " + c[1] + ", " + c[2] + ")", Checks.INDEX,
                    () -> x.obligation(c[0], c[1], c[2]));
        }
        int[][] wrong = {
            {-1, 1, 0, 0, 0}, {5, 1, 0, 0, 0}, {0, -1, 0, 0, 0}, {0, 5, 0, 0, 0}, {0, 1, -1, 0, 0}, {0, 1, 8, 0, 0},
            {0, 1, 0, -1, 0}, {0, 1, 0, 12, 12}, {0, 1, 0, 0, -1}, {0, 1, 0, 0, 12},
            {LOW, 1, 0, 0, 0}, {0, HIGH, 0, 0, 0}, {0, 1, HIGH, 0, 0}, {0, 1, 0, LOW, 0}, {0, 1, 0, 0, HIGH},
        };
        for (int[] a : wrong) {
            Checks.dueThrow("trade(" + a[0] + ", " + a[1] + ", " + a[2] + ", " + a[3] + ", " + a[4] + ", 1)",
                    Checks.INDEX, () -> x.trade(a[0], a[1], a[2], a[3], a[4], 1));
        }
        Checks.due("trades()", x.trades(), 0);
    }

    private static void wrongArguments() {
        CapacityRound x = market();
        int[][] wrong = {
            {0, 0, 0, 0, 1}, {0, 1, 1, 0, 1}, {0, 1, 11, 10, 1}, {0, 1, 0, 0, 0}, {0, 1, 0, 0, -1},
            {0, 1, 0, 0, 1001}, {0, 1, 0, 0, LOW}, {0, 1, 0, 0, HIGH},
        };
        for (int[] a : wrong) {
            Checks.dueThrow("trade(" + a[0] + ", " + a[1] + ", 0, " + a[2] + ", " + a[3] + ", " + a[4] + ")",
                    Checks.ARGUMENT, () -> x.trade(a[0], a[1], 0, a[2], a[3], a[4]));
        }
        Checks.dueThrow("an amount of 1000", Checks.STATE, () -> x.trade(0, 1, 0, 0, 0, 1000));
        Checks.due("trades()", x.trades(), 0);
        Checks.due("obligation(0, 0, 0)", x.obligation(0, 0, 0), 90);
    }

    private static void theFirstExceptionGoesFirst() {
        CapacityRound x = new CapacityRound();
        Checks.dueThrow("no party, twice the same", Checks.INDEX, () -> x.trade(5, 5, 0, 0, 0, 1));
        Checks.dueThrow("no year, amount 0", Checks.INDEX, () -> x.trade(0, 1, 8, 0, 0, 0));
        Checks.dueThrow("no hour, to before from", Checks.INDEX, () -> x.trade(0, 1, 0, 12, 0, 1));
        Checks.dueThrow("no hour, to before from", Checks.INDEX, () -> x.trade(0, 1, 0, 0, -1, 1));
        Checks.dueThrow("amount 1001, no obligation", Checks.ARGUMENT, () -> x.trade(0, 1, 0, 0, 0, 1001));
        Checks.dueThrow("the same, no obligation", Checks.ARGUMENT, () -> x.trade(0, 0, 0, 0, 0, 1));
        Checks.dueThrow("no obligation", Checks.STATE, () -> x.trade(0, 1, 0, 0, 0, 1));
    }
}
