/**
 * The sentences of 'Terms' that name a boundary case, trades to penalties: each at its boundary and one step to each
 * side of it. The numbers are worked out by hand, not by the model.
 */
public final class StressTermsTest {
    public static void main(String[] args) {
        tradesChangeNeither();
        aTradeOfAllThatIsThere();
        theAmountsOfATrade();
        theHoursOfATrade();
        theWeakestHourOfATrade();
        whatWasTakenOverCanBeHandedOn();
        onlyTradesThatWereMadeCount();
        noHourIsAStressHourAtFirst();
        stressTwiceIsNone();
        outputsAreNoneAtFirst();
        theLargestOutput();
        lackAroundNothing();
        whatIsAboveCountsAgainstWhatIsShort();
        whatIsAboveStaysInItsYearAndParty();
        rateAndCapAtFirst();
        penaltyAroundTheCap();
        theCapIsRoundedDown();
        ratesAndCapsAtTheirEnds();
        penaltyWithoutIncome();
        penaltiesAreTheSum();
        Checks.finish();
    }

    /** Party 0 has the amount in every hour of year 3, and exit times of it as income. */
    private static CapacityRound market(int amount, int exit) {
        CapacityRound x = new CapacityRound();
        x.offer(0, amount, 100, exit, 1);
        x.run(3);
        return x;
    }

    private static void dueObligations(String what, CapacityRound x, int party, int from, int to, int in, int out) {
        for (int hour = 0; hour < 12; hour++) {
            Checks.due(what + ": obligation(" + party + ", 3, " + hour + ")", x.obligation(party, 3, hour),
                    hour >= from && hour <= to ? in : out);
        }
    }

    /** "Trades change neither" what is bought nor an income. */
    private static void tradesChangeNeither() {
        CapacityRound x = market(50, 20);
        for (int hour = 0; hour < 12; hour++) {
            x.trade(0, 1 + hour % 4, 3, hour, hour, 50);
        }
        x.trade(1, 0, 3, 0, 0, 50);
        for (int year = 0; year < 8; year++) {
            Checks.due("bought(" + year + ")", x.bought(year), year == 3 ? 50 : 0);
            Checks.due("income(0, " + year + ")", x.income(0, year), year == 3 ? 1000 : 0);
            for (int party = 1; party < 5; party++) {
                Checks.due("income(" + party + ", " + year + ")", x.income(party, year), 0);
            }
        }
    }

    /** Promise 15: "if the obligation of the party is less than the amount in one of these hours." */
    private static void aTradeOfAllThatIsThere() {
        for (int amount = 49; amount <= 51; amount++) {
            int of = amount;
            CapacityRound x = market(50, 20);
            long[] left = {-1};
            Checks.dueThrow(of + " of 50", of > 50 ? Checks.STATE : Checks.NOTHING,
                    () -> left[0] = x.trade(0, 4, 3, 0, 11, of));
            Checks.due(of + " of 50: left", left[0], of > 50 ? -1 : 50 - of);
            dueObligations(of + " of 50", x, 0, 0, 11, of > 50 ? 50 : 50 - of, 0);
            dueObligations(of + " of 50", x, 4, 0, 11, of > 50 ? 0 : of, 0);
            Checks.due(of + " of 50: trades()", x.trades(), of > 50 ? 0 : 1);
        }
        CapacityRound none = market(50, 20);
        Checks.dueThrow("1 of 0", Checks.STATE, () -> none.trade(1, 0, 3, 0, 0, 1));
        Checks.dueThrow("1 of 0 in the year before", Checks.STATE, () -> none.trade(0, 1, 2, 11, 11, 1));
        Checks.dueThrow("1 of 0 in the year behind", Checks.STATE, () -> none.trade(0, 1, 4, 0, 0, 1));
    }

    /** Promise 15: the amount is "1 to 1000", whatever the obligation is. */
    private static void theAmountsOfATrade() {
        int[][] rows = {{0, -1}, {1, 1001}, {2, 1000}, {999, 3}, {1000, 2}, {1001, -1}, {1002, -1}};
        for (int[] row : rows) {
            CapacityRound x = new CapacityRound();
            x.setDemand(1000, 1001, 1000);
            x.offer(0, 300, 100, 1, 1);
            x.offer(0, 300, 100, 1, 1);
            x.offer(0, 300, 100, 1, 1);
            x.offer(0, 102, 100, 1, 1);
            Checks.due("run", x.run(3), 4);
            long[] left = {-1};
            Checks.dueThrow(row[0] + " of 1002", row[1] < 0 ? Checks.ARGUMENT : Checks.NOTHING,
                    () -> left[0] = x.trade(0, 1, 3, 5, 6, row[0]));
            Checks.due(row[0] + " of 1002: left", left[0], row[1]);
            dueObligations(row[0] + " of 1002", x, 0, 5, 6, row[1] < 0 ? 1002 : row[1], 1002);
            dueObligations(row[0] + " of 1002", x, 1, 5, 6, row[1] < 0 ? 0 : row[0], 0);
        }
    }

    /** Promise 15: "in all hours of a year from one to another one, both with." */
    private static void theHoursOfATrade() {
        for (int from = 0; from < 12; from++) {
            for (int to = from; to < 12; to++) {
                CapacityRound x = new CapacityRound();
                x.offer(0, 50, 100, 20, 3);
                x.run(2);
                String what = "hours " + from + " to " + to;
                Checks.due(what, x.trade(0, 2, 3, from, to, 20), 30);
                dueObligations(what, x, 0, from, to, 30, 50);
                dueObligations(what, x, 2, from, to, 20, 0);
                dueObligations(what, x, 1, 0, 11, 0, 0);
                dueObligations(what, x, 3, 0, 11, 0, 0);
                Checks.due(what + ": the last hour of the year before", x.obligation(0, 2, 11), 50);
                Checks.due(what + ": the first hour of the year behind", x.obligation(0, 4, 0), 50);
                Checks.due(what + ": the last hour of the year before", x.obligation(2, 2, 11), 0);
                Checks.due(what + ": the first hour of the year behind", x.obligation(2, 4, 0), 0);
            }
        }
    }

    /** "The least obligation that the party has left in these hours": each of them may have it. */
    private static void theWeakestHourOfATrade() {
        for (int weak = 0; weak < 12; weak++) {
            int of = weak;
            CapacityRound x = market(50, 20);
            x.trade(0, 1, 3, of, of, 9);
            Checks.dueThrow("42 where hour " + of + " has 41", Checks.STATE, () -> x.trade(0, 1, 3, 0, 11, 42));
            Checks.due("40 where hour " + of + " has 41", x.trade(0, 1, 3, 0, 11, 40), 1);
            Checks.due("1 where hour " + of + " has 1", x.trade(0, 1, 3, 0, 11, 1), 0);
            Checks.dueThrow("1 where hour " + of + " has 0", Checks.STATE, () -> x.trade(0, 1, 3, 0, 11, 1));
            // the hours beside it have 9 left
            if (of > 0) {
                Checks.due("9 ahead of hour " + of, x.trade(0, 1, 3, 0, of - 1, 9), 0);
            }
            if (of < 11) {
                Checks.due("9 behind hour " + of, x.trade(0, 1, 3, of + 1, 11, 9), 0);
            }
            dueObligations("all handed over", x, 0, 0, 11, 0, 0);
            dueObligations("all handed over", x, 1, 0, 11, 50, 0);
        }
    }

    private static void whatWasTakenOverCanBeHandedOn() {
        CapacityRound x = market(50, 20);
        x.trade(0, 1, 3, 4, 6, 30);
        Checks.dueThrow("31 of 30", Checks.STATE, () -> x.trade(1, 2, 3, 4, 6, 31));
        Checks.dueThrow("hour 3 was not taken over", Checks.STATE, () -> x.trade(1, 2, 3, 3, 4, 1));
        Checks.dueThrow("hour 7 was not taken over", Checks.STATE, () -> x.trade(1, 2, 3, 6, 7, 1));
        Checks.due("29 of 30", x.trade(1, 2, 3, 4, 6, 29), 1);
        Checks.due("and the last one", x.trade(1, 2, 3, 4, 6, 1), 0);
        Checks.due("back to the first", x.trade(2, 0, 3, 4, 6, 30), 0);
        dueObligations("back again", x, 0, 0, 11, 50, 0);
        Checks.due("trades()", x.trades(), 4);
    }

    /** Promise 16: "how many trades there were." */
    private static void onlyTradesThatWereMadeCount() {
        CapacityRound x = market(50, 20);
        Checks.due("trades() at first", x.trades(), 0);
        for (int made = 1; made <= 50; made++) {
            x.trade(0, 1, 3, 0, 0, 1);
            Checks.due("trades()", x.trades(), made);
        }
        Checks.dueThrow("one more", Checks.STATE, () -> x.trade(0, 1, 3, 0, 0, 1));
        Checks.dueThrow("the same party", Checks.ARGUMENT, () -> x.trade(1, 1, 3, 0, 0, 1));
        Checks.dueThrow("no hour", Checks.INDEX, () -> x.trade(1, 0, 3, 0, 12, 1));
        Checks.due("trades() behind what was refused", x.trades(), 50);
    }

    /** "Each hour of a year is a stress hour or not, none at first." */
    private static void noHourIsAStressHourAtFirst() {
        CapacityRound x = market(50, 20);
        Checks.due("lack(0, 3)", x.lack(0, 3), 0);
        for (int hour = 0; hour < 12; hour++) {
            Checks.due("stress(3, " + hour + ")", x.stress(3, hour), true);
            Checks.due("lack(0, 3)", x.lack(0, 3), 50 * (hour + 1));
        }
        CapacityRound y = new CapacityRound();
        for (int year = 0; year < 8; year++) {
            for (int hour = 0; hour < 12; hour++) {
                Checks.due("stress(" + year + ", " + hour + ")", y.stress(year, hour), true);
            }
        }
        // the hours beside year 3 are not its own
        CapacityRound z = market(50, 20);
        z.stress(2, 11);
        z.stress(4, 0);
        Checks.due("lack(0, 3) beside stress", z.lack(0, 3), 0);
    }

    /** Promise 17: "or takes that back. Returns true if it is one then." */
    private static void stressTwiceIsNone() {
        CapacityRound x = market(50, 20);
        for (int hour = 0; hour < 12; hour++) {
            Checks.due("once", x.stress(3, hour), true);
            Checks.due("lack", x.lack(0, 3), 50);
            Checks.due("twice", x.stress(3, hour), false);
            Checks.due("lack", x.lack(0, 3), 0);
            Checks.due("three times", x.stress(3, hour), true);
            Checks.due("four times", x.stress(3, hour), false);
        }
    }

    /** "Each party has an output in each hour of a year, 0 at first." */
    private static void outputsAreNoneAtFirst() {
        CapacityRound x = new CapacityRound();
        for (int party = 0; party < 5; party++) {
            for (int year = 0; year < 8; year++) {
                for (int hour = 0; hour < 12; hour++) {
                    Checks.due("tell(" + party + ", " + year + ", " + hour + ", 5000)",
                            x.tell(party, year, hour, 5000), 0);
                }
            }
        }
    }

    /** Promise 18: the output is "0 to 5000". */
    private static void theLargestOutput() {
        CapacityRound x = new CapacityRound();
        x.stress(3, 8);
        int before = 0;
        for (int output : new int[] {1, 0, 4999, 5000, 0, 5000}) {
            Checks.due("tell " + output, x.tell(0, 3, 8, output), before);
            Checks.due("lack behind " + output, x.lack(0, 3), -output);
            before = output;
        }
        for (int output : new int[] {-1, 5001}) {
            Checks.dueThrow("tell " + output, Checks.ARGUMENT, () -> x.tell(0, 3, 8, output));
            Checks.due("lack behind " + output, x.lack(0, 3), -5000);
        }
        Checks.due("tell again", x.tell(0, 3, 8, 0), 5000);
    }

    /** "Its obligation less its output; below 0 if it has delivered more"; its penalty is "0 if the lack is below 0". */
    private static void lackAroundNothing() {
        int[][] rows = {{0, 50, 500}, {48, 2, 40}, {49, 1, 20}, {50, 0, 0}, {51, -1, 0}, {52, -2, 0}, {5000, -4950, 0}};
        for (int[] row : rows) {
            CapacityRound x = market(50, 20);
            x.stress(3, 11);
            x.tell(0, 3, 11, row[0]);
            // what is told for an hour without stress counts nothing
            x.tell(0, 3, 10, 7);
            Checks.due("lack with " + row[0] + " of 50", x.lack(0, 3), row[1]);
            Checks.due("penalty with " + row[0] + " of 50", x.penalty(0, 3), row[2]);
            Checks.due("penalties with " + row[0] + " of 50", x.penalties(), row[2]);
        }
    }

    /** The lack is a sum over the stress hours of the year: output above the obligation in one helps in another. */
    private static void whatIsAboveCountsAgainstWhatIsShort() {
        int[][] rows = {{60, 39, 1, 20}, {60, 40, 0, 0}, {60, 41, -1, 0}, {0, 99, 1, 20}, {0, 100, 0, 0},
            {0, 101, -1, 0}};
        for (int[] row : rows) {
            CapacityRound x = market(50, 20);
            x.stress(3, 0);
            x.stress(3, 11);
            x.tell(0, 3, 0, row[0]);
            x.tell(0, 3, 11, row[1]);
            String what = row[0] + " and " + row[1] + " of 50 and 50: ";
            Checks.due(what + "lack", x.lack(0, 3), row[2]);
            Checks.due(what + "penalty", x.penalty(0, 3), row[3]);
        }
        CapacityRound most = new CapacityRound();
        for (int hour = 0; hour < 12; hour++) {
            most.stress(3, hour);
            most.tell(0, 3, hour, 5000);
        }
        most.setPenalty(1000, 200);
        Checks.due("the least lack", most.lack(0, 3), -60000);
        Checks.due("its penalty", most.penalty(0, 3), 0);
    }

    /** Another year's or party's output above its obligation helps no one. */
    private static void whatIsAboveStaysInItsYearAndParty() {
        CapacityRound x = new CapacityRound();
        x.offer(0, 50, 100, 20, 2);
        x.offer(1, 10, 100, 20, 2);
        x.run(3);
        x.stress(3, 6);
        x.stress(4, 6);
        x.tell(0, 3, 6, 49);
        x.tell(0, 4, 6, 5000);
        x.tell(1, 3, 6, 5000);
        x.tell(1, 4, 6, 8);
        Checks.due("lack(0, 3)", x.lack(0, 3), 1);
        Checks.due("lack(0, 4)", x.lack(0, 4), -4950);
        Checks.due("lack(1, 3)", x.lack(1, 3), -4990);
        Checks.due("lack(1, 4)", x.lack(1, 4), 2);
        Checks.due("penalty(0, 3)", x.penalty(0, 3), 20);
        Checks.due("penalty(0, 4)", x.penalty(0, 4), 0);
        Checks.due("penalty(1, 3)", x.penalty(1, 3), 0);
        Checks.due("penalty(1, 4)", x.penalty(1, 4), 40);
        Checks.due("penalties()", x.penalties(), 60);
    }

    /** "The rate, 20 at first"; "the cap, 50 at first". */
    private static void rateAndCapAtFirst() {
        CapacityRound x = market(50, 20);
        x.stress(3, 0);
        int[][] rows = {{49, 20}, {48, 40}, {26, 480}, {25, 500}, {24, 500}, {0, 500}};
        for (int[] row : rows) {
            x.tell(0, 3, 0, row[0]);
            Checks.due("penalty with " + row[0] + " of 50", x.penalty(0, 3), row[1]);
        }
        x.setPenalty(21, 51);
        Checks.due("a cap of 51", x.penalty(0, 3), 510);
        x.tell(0, 3, 0, 49);
        Checks.due("a rate of 21", x.penalty(0, 3), 21);
    }

    /** "Not more than its income in the year times the cap": one below, the same, and one above. */
    private static void penaltyAroundTheCap() {
        CapacityRound x = market(50, 20);
        for (int hour = 0; hour < 12; hour++) {
            x.stress(3, hour);
        }
        x.setPenalty(1, 50);
        int[][] rows = {{102, 498}, {101, 499}, {100, 500}, {99, 500}, {98, 500}, {0, 500}};
        for (int[] row : rows) {
            x.tell(0, 3, 5, row[0]);
            Checks.due("lack", x.lack(0, 3), 600 - row[0]);
            Checks.due("penalty of a lack of " + (600 - row[0]), x.penalty(0, 3), row[1]);
        }
    }

    /** "Divided by 100, rounded down." */
    private static void theCapIsRoundedDown() {
        // cap and penalty with an income of 99: 0.99, 1.98, 49.50, 98.01, 99.00, 99.99, 100.98 and 198.00
        int[][] rows = {
            {0, 0}, {1, 0}, {2, 1}, {50, 49}, {99, 98}, {100, 99}, {101, 99}, {102, 100}, {199, 197}, {200, 198},
        };
        CapacityRound x = market(3, 33);
        x.stress(3, 0);
        for (int[] row : rows) {
            x.setPenalty(1000, row[0]);
            Checks.due("a cap of " + row[0] + " of 99", x.penalty(0, 3), row[1]);
        }
        // a lack of 1 against the half of 99
        x.tell(0, 3, 0, 2);
        for (int rate = 48; rate <= 51; rate++) {
            x.setPenalty(rate, 50);
            Checks.due("a rate of " + rate + " against 49", x.penalty(0, 3), Math.min(rate, 49));
        }
        // incomes of 99, 100 and 101 and a cap of 1
        int[][] incomes = {{3, 33, 0}, {4, 25, 1}, {5, 20, 1}, {1, 49, 0}, {11, 9, 0}, {101, 1, 1}, {199, 1, 1}};
        for (int[] row : incomes) {
            CapacityRound y = market(row[0], row[1]);
            y.stress(3, 0);
            y.setPenalty(1000, 1);
            Checks.due("income", y.income(0, 3), row[0] * row[1]);
            Checks.due("one percent of " + row[0] * row[1], y.penalty(0, 3), row[2]);
        }
    }

    /** Promise 19: the rate is "0 to 1000", the cap "0 to 200". */
    private static void ratesAndCapsAtTheirEnds() {
        CapacityRound x = market(50, 20);
        x.stress(3, 0);
        int[][] rows = {
            {0, 200, 0}, {1, 200, 50}, {999, 200, 2000}, {1000, 200, 2000}, {1000, 199, 1990}, {1000, 1, 10},
            {1000, 0, 0}, {1, 0, 0}, {0, 0, 0},
        };
        for (int[] row : rows) {
            x.setPenalty(row[0], row[1]);
            Checks.due("rate " + row[0] + ", cap " + row[1], x.penalty(0, 3), row[2]);
        }
        x.tell(0, 3, 0, 49);
        x.setPenalty(999, 200);
        Checks.due("a rate of 999", x.penalty(0, 3), 999);
        x.setPenalty(1000, 200);
        Checks.due("a rate of 1000", x.penalty(0, 3), 1000);
        int[][] wrong = {{1001, 200}, {-1, 200}, {1000, 201}, {1000, -1}};
        for (int[] row : wrong) {
            Checks.dueThrow("rate " + row[0] + ", cap " + row[1], Checks.ARGUMENT,
                    () -> x.setPenalty(row[0], row[1]));
            Checks.due("penalty behind it", x.penalty(0, 3), 1000);
        }
    }

    /** What a party took over by a trade alone is capped by an income of 0. */
    private static void penaltyWithoutIncome() {
        CapacityRound x = market(50, 20);
        x.stress(3, 2);
        x.trade(0, 1, 3, 2, 2, 50);
        x.setPenalty(1000, 200);
        Checks.due("lack(1, 3)", x.lack(1, 3), 50);
        Checks.due("penalty(1, 3)", x.penalty(1, 3), 0);
        Checks.due("lack(0, 3)", x.lack(0, 3), 0);
        Checks.due("penalty(0, 3)", x.penalty(0, 3), 0);
        x.offer(1, 1, 100, 1, 1);
        x.run(3);
        Checks.due("penalty(1, 3) with an income of 1", x.penalty(1, 3), 2);
    }

    /** Promise 22: "the sum of the penalties of all parties in all years." */
    private static void penaltiesAreTheSum() {
        for (int party = 0; party < 5; party++) {
            for (int year = 0; year < 8; year++) {
                CapacityRound x = new CapacityRound();
                x.offer(party, 50, 100, 20, 1);
                x.run(year);
                Checks.due("penalties() without stress", x.penalties(), 0);
                x.stress(year, 11);
                x.tell(party, year, 11, 47);
                Checks.due("penalties() of party " + party + " in year " + year, x.penalties(), 60);
                x.tell((party + 1) % 5, year, 11, 5000);
                Checks.due("penalties() beside one far above", x.penalties(), 60);
            }
        }
    }
}
