/**
 * The sentences of 'Terms' that name a boundary case, demand to auctions: each at its boundary and one step to each
 * side of it. The numbers are worked out by hand, not by the model.
 */
public final class AuctionTermsTest {
    public static void main(String[] args) {
        theLastOf512Calls();
        objectsKnowNothingOfOneAnother();
        demandAtFirst();
        valueAroundTheLowerAmount();
        valueAroundTheUpperAmount();
        valueIsRoundedDown();
        worthFromNoUnitOn();
        twelveOffersWait();
        numbersFollowTheCalls();
        amountIsRoundedDown();
        supplyAroundAnExitPrice();
        exitPricesGoFirst();
        equalExitPricesGoByNumber();
        gainAroundNothing();
        ofSeveralTheLeast();
        gainOfTheLastUnit();
        whatWasBoughtStandsAhead();
        clearingPriceOfThoseTaken();
        exitPricesAtTheEndsOfTheClock();
        termsBehindYearSeven();
        auctionsForYearsBehind();
        noneAreTaken();
        allAreGone();
        Checks.finish();
    }

    private static void dueAuction(String what, CapacityRound x, int year, int price, boolean... taken) {
        Checks.due(what + ": clearing(" + year + ")", x.clearing(year), price);
        Checks.due(what + ": clearingByClock(" + year + ")", x.clearingByClock(year), price);
        for (int offer = 0; offer < taken.length; offer++) {
            Checks.due(what + ": wouldTake(" + offer + ", " + year + ")", x.wouldTake(offer, year), taken[offer]);
        }
    }

    private static CapacityRound demand(int lower, int upper, int top) {
        CapacityRound x = new CapacityRound();
        x.setDemand(lower, upper, top);
        return x;
    }

    /** "An object is used for at most 512 calls after it has been made." */
    private static void theLastOf512Calls() {
        CapacityRound x = new CapacityRound();
        for (int call = 1; call <= 512; call++) {
            Checks.due("tell, call " + call, x.tell(4, 7, 11, call), call - 1);
        }
        CapacityRound y = new CapacityRound();
        for (int call = 1; call <= 510; call++) {
            Checks.due("stress, call " + call, y.stress(7, 11), call % 2 == 1);
        }
        Checks.due("offer, call 511", y.offer(4, 300, 1, 4, 4), 0);
        Checks.due("run, call 512", y.run(7), 1);
    }

    /** Promise 1: "Begins without offers and obligations", whatever was called on another object. */
    private static void objectsKnowNothingOfOneAnother() {
        CapacityRound x = Markets.after(Markets.busy());
        CapacityRound y = new CapacityRound();
        Checks.due("offers()", y.offers(), 0);
        Checks.due("trades()", y.trades(), 0);
        Checks.due("worth(10000)", y.worth(10000), 7450);
        Checks.due("bought(2)", y.bought(2), 0);
        Checks.due("obligation(0, 2, 1)", y.obligation(0, 2, 1), 0);
        Checks.due("tell", y.tell(0, 2, 3, 5), 0);
        Checks.due("stress", y.stress(2, 3), true);
        Checks.due("lack(0, 2)", y.lack(0, 2), -5);
        y.setDemand(0, 1, 1);
        y.setPenalty(0, 0);
        Checks.due("lack(0, 2) of the other", x.lack(0, 2), 40);
        Checks.due("penalty(0, 2) of the other", x.penalty(0, 2), 1260);
        Checks.due("value(1) of the other", x.value(1), 47);
    }

    /** "At first 100, 200 and 50." */
    private static void demandAtFirst() {
        CapacityRound x = new CapacityRound();
        int[][] rows = {
            {1, 50}, {99, 50}, {100, 50}, {101, 49}, {102, 49}, {103, 48}, {150, 25}, {196, 2}, {197, 1}, {198, 1},
            {199, 0}, {200, 0}, {201, 0},
        };
        for (int[] row : rows) {
            Checks.due("value(" + row[0] + ")", x.value(row[0]), row[1]);
        }
        // 5000 for the first hundred, then twice (1 + .. + 49)
        Checks.due("worth(100)", x.worth(100), 5000);
        Checks.due("worth(101)", x.worth(101), 5049);
        Checks.due("worth(198)", x.worth(198), 7450);
        Checks.due("worth(197)", x.worth(197), 7449);
        Checks.due("worth(200)", x.worth(200), 7450);
    }

    /** "The top price if q is not above the lower amount." */
    private static void valueAroundTheLowerAmount() {
        CapacityRound x = demand(10, 20, 1000);
        Checks.due("9 of 10", x.value(9), 1000);
        Checks.due("10 of 10", x.value(10), 1000);
        Checks.due("11 of 10", x.value(11), 900);
        CapacityRound none = demand(0, 2, 10);
        Checks.due("1 of 0", none.value(1), 5);
        Checks.due("2 of 0", none.value(2), 0);
        CapacityRound one = demand(1, 3, 10);
        Checks.due("1 of 1", one.value(1), 10);
        Checks.due("2 of 1", one.value(2), 5);
        Checks.due("3 of 1", one.value(3), 0);
        CapacityRound most = demand(1000, 1001, 1000);
        Checks.due("999 of 1000", most.value(999), 1000);
        Checks.due("1000 of 1000", most.value(1000), 1000);
        Checks.due("1001 of 1000", most.value(1001), 0);
        CapacityRound nearly = demand(999, 1001, 1000);
        Checks.due("999 of 999", nearly.value(999), 1000);
        Checks.due("1000 of 999", nearly.value(1000), 500);
        Checks.due("1001 of 999", nearly.value(1001), 0);
    }

    /** "0 if q is above the upper amount." */
    private static void valueAroundTheUpperAmount() {
        CapacityRound x = demand(10, 20, 1000);
        Checks.due("19 of 20", x.value(19), 100);
        Checks.due("20 of 20", x.value(20), 0);
        // by the formula it would be -100
        Checks.due("21 of 20", x.value(21), 0);
        Checks.due("22 of 20", x.value(22), 0);
        Checks.due("30 of 20", x.value(30), 0);
        Checks.due("9999 of 20", x.value(9999), 0);
        Checks.due("10000 of 20", x.value(10000), 0);
        CapacityRound widest = demand(0, 1001, 1000);
        Checks.due("1 of 0 to 1001", widest.value(1), 999);
        Checks.due("2 of 0 to 1001", widest.value(2), 998);
        Checks.due("999 of 0 to 1001", widest.value(999), 1);
        Checks.due("1000 of 0 to 1001", widest.value(1000), 0);
        Checks.due("1001 of 0 to 1001", widest.value(1001), 0);
        Checks.due("1002 of 0 to 1001", widest.value(1002), 0);
        CapacityRound least = demand(0, 1, 1);
        Checks.due("1 of 0 to 1", least.value(1), 0);
        Checks.due("2 of 0 to 1", least.value(2), 0);
    }

    /** "The top price * (upper amount - q) / (upper amount - lower amount), rounded down." */
    private static void valueIsRoundedDown() {
        int[][] rows = {
            // lower, upper, top, unit, value: the third of 8, 9, 10, 11 and 12
            {0, 3, 8, 2, 2}, {0, 3, 9, 2, 3}, {0, 3, 10, 2, 3}, {0, 3, 11, 2, 3}, {0, 3, 12, 2, 4},
            // the half of 1, 2 and 3
            {5, 7, 1, 6, 0}, {5, 7, 2, 6, 1}, {5, 7, 3, 6, 1},
            // 1000 * 999 / 1001 is 998 and a bit, 1 * 1000 / 1001 is less than 1
            {0, 1001, 1000, 2, 998}, {0, 1001, 1, 1, 0},
            // 999 * 1 / 1000 and 1000 * 1 / 1000
            {1, 1001, 999, 1000, 0}, {1, 1001, 1000, 1000, 1}, {1, 1001, 1000, 999, 2},
        };
        for (int[] r : rows) {
            Checks.due("value(" + r[3] + ") of " + r[2] + " from " + r[0] + " to " + r[1],
                    demand(r[0], r[1], r[2]).value(r[3]), r[4]);
        }
    }

    /** "The worth of an amount is the sum of the values of the units from the first one to that many." */
    private static void worthFromNoUnitOn() {
        CapacityRound x = demand(10, 13, 10);
        int[][] rows = {
            {0, 0}, {1, 10}, {2, 20}, {9, 90}, {10, 100}, {11, 106}, {12, 109}, {13, 109}, {14, 109},
            {1000, 109}, {1001, 109}, {1002, 109}, {9999, 109}, {10000, 109},
        };
        for (int[] row : rows) {
            Checks.due("worth(" + row[0] + ")", x.worth(row[0]), row[1]);
        }
        CapacityRound most = demand(1000, 1001, 1000);
        int[][] largest = {
            {0, 0}, {1, 1000}, {999, 999000}, {1000, 1000000}, {1001, 1000000}, {1002, 1000000}, {10000, 1000000},
        };
        for (int[] row : largest) {
            Checks.due("worth(" + row[0] + ") of the largest demand", most.worth(row[0]), row[1]);
        }
        // a demand that was larger leaves nothing behind
        most.setDemand(0, 1, 1000);
        for (int[] row : largest) {
            Checks.due("worth(" + row[0] + ") of the least demand", most.worth(row[0]), 0);
        }
    }

    /** "Offers wait for the next auction, at most 12." */
    private static void twelveOffersWait() {
        CapacityRound x = new CapacityRound();
        for (int number = 0; number < 11; number++) {
            x.offer(1, 1, 100, 7, 1);
        }
        Checks.due("offers() behind 11", x.offers(), 11);
        Checks.dueThrow("the 12th offer", Checks.NOTHING, () -> x.offer(2, 1, 100, 7, 1));
        Checks.due("offers() behind 12", x.offers(), 12);
        Checks.dueThrow("the 13th offer", Checks.STATE, () -> x.offer(3, 1, 100, 7, 1));
        Checks.dueThrow("the 13th offer again", Checks.STATE, () -> x.offer(3, 1, 0, 0, 1));
        Checks.due("offers() behind 13", x.offers(), 12);
        Checks.due("supply(7)", x.supply(7), 12);
        Checks.due("run", x.run(0), 12);
        Checks.due("income(1, 0)", x.income(1, 0), 77);
        Checks.due("income(2, 0)", x.income(2, 0), 7);
        Checks.due("income(3, 0)", x.income(3, 0), 0);
        for (int number = 0; number < 12; number++) {
            Checks.due("offer behind the auction", x.offer(4, 1, 100, 1, 1), number);
        }
        Checks.dueThrow("the 13th offer behind the auction", Checks.STATE, () -> x.offer(4, 1, 100, 1, 1));
    }

    /** "Numbered from 0 in the order in which they came": the numbers do not follow the exit prices. */
    private static void numbersFollowTheCalls() {
        CapacityRound x = demand(10, 11, 10);
        Checks.due("the first", x.offer(0, 5, 100, 9, 1), 0);
        Checks.due("the second", x.offer(1, 5, 100, 3, 1), 1);
        Checks.due("the third", x.offer(2, 5, 100, 6, 1), 2);
        dueAuction("three", x, 0, 6, false, true, true);
        Checks.dueThrow("wouldTake(-1, 0)", Checks.INDEX, () -> x.wouldTake(-1, 0));
        Checks.dueThrow("wouldTake(3, 0)", Checks.INDEX, () -> x.wouldTake(3, 0));
        Checks.due("the fourth", x.offer(3, 5, 100, 1, 1), 3);
        dueAuction("four", x, 0, 3, false, true, false, true);
    }

    /** "Its amount is capacity * derating / 100, rounded down." */
    private static void amountIsRoundedDown() {
        int[][] rows = {
            // capacity, derating, amount: 99, 100 and 101 hundredths, then 199, 200 and 201
            {99, 1, 0}, {100, 1, 1}, {101, 1, 1}, {199, 1, 1}, {200, 1, 2}, {201, 1, 2}, {3, 33, 0}, {4, 25, 1},
            {1, 98, 0}, {1, 99, 0}, {1, 100, 1}, {2, 49, 0}, {2, 50, 1}, {2, 51, 1},
            {300, 0, 0}, {300, 1, 3}, {300, 99, 297}, {299, 99, 296}, {299, 100, 299}, {300, 100, 300},
        };
        for (int[] row : rows) {
            CapacityRound x = demand(1000, 1001, 1000);
            x.offer(3, row[0], row[1], 2, 1);
            String what = row[0] + " at " + row[1] + " percent: ";
            Checks.due(what + "supply", x.supply(2), row[2]);
            Checks.due(what + "run", x.run(5), row[2] > 0 ? 1 : 0);
            Checks.due(what + "bought", x.bought(5), row[2]);
            Checks.due(what + "income", x.income(3, 5), 2 * row[2]);
            Checks.due(what + "obligation", x.obligation(3, 5, 0), row[2]);
        }
    }

    /** Promise 7: "offers that wait and have an exit price of at most a price." */
    private static void supplyAroundAnExitPrice() {
        for (int exit : new int[] {0, 1, 2, 499, 998, 999, 1000}) {
            CapacityRound x = new CapacityRound();
            Checks.due("supply without offers", x.supply(exit), 0);
            x.offer(0, 7, 100, exit, 1);
            x.offer(1, 5, 100, exit, 1);
            if (exit > 0) {
                Checks.due("supply(" + (exit - 1) + ")", x.supply(exit - 1), 0);
            }
            Checks.due("supply(" + exit + ")", x.supply(exit), 12);
            if (exit < 1000) {
                Checks.due("supply(" + (exit + 1) + ")", x.supply(exit + 1), 12);
            }
        }
        CapacityRound largest = new CapacityRound();
        for (int number = 0; number < 12; number++) {
            largest.offer(0, 300, 100, 1000 * (number % 2), 1);
        }
        Checks.due("supply(999) of six", largest.supply(999), 1800);
        Checks.due("supply(1000) of twelve", largest.supply(1000), 3600);
    }

    /** "Put in order by their exit prices": one apart is enough, whatever the numbers are. */
    private static void exitPricesGoFirst() {
        for (int exit = 4; exit <= 6; exit++) {
            CapacityRound x = demand(10, 11, 10);
            x.offer(0, 10, 100, 5, 1);
            x.offer(1, 10, 100, exit, 1);
            dueAuction("5 and " + exit, x, 0, Math.min(5, exit), exit >= 5, exit < 5);
        }
    }

    /** "Those with the same by their numbers." */
    private static void equalExitPricesGoByNumber() {
        CapacityRound x = demand(10, 11, 10);
        x.offer(0, 4, 100, 5, 1);
        x.offer(1, 6, 100, 5, 1);
        x.offer(2, 4, 100, 5, 1);
        x.offer(3, 6, 100, 5, 1);
        dueAuction("four at 5", x, 0, 5, true, true, false, false);
        x.offer(4, 3, 100, 4, 1);
        // 3 at 4, 4 at 5, and three more units worth 10 for six at 5
        dueAuction("one at 4 behind them", x, 0, 5, true, false, false, false, true);
        Checks.due("run", x.run(0), 2);
        Checks.due("obligation(0, 0, 0)", x.obligation(0, 0, 0), 4);
        Checks.due("obligation(1, 0, 0)", x.obligation(1, 0, 0), 0);
        Checks.due("obligation(4, 0, 0)", x.obligation(4, 0, 0), 3);

        CapacityRound twelve = demand(6, 7, 10);
        for (int number = 0; number < 12; number++) {
            twelve.offer(number % 5, 1, 100, 8, 1);
        }
        dueAuction("twelve at 8", twelve, 7, 8,
                true, true, true, true, true, true, false, false, false, false, false, false);
        Checks.due("run(7)", twelve.run(7), 6);
        Checks.due("obligation(0, 7, 3)", twelve.obligation(0, 7, 3), 2);
        Checks.due("obligation(1, 7, 3)", twelve.obligation(1, 7, 3), 1);
    }

    /** "k is what has the greatest welfare": one offer that gains, gains nothing or loses. */
    private static void gainAroundNothing() {
        for (int exit = 9; exit <= 11; exit++) {
            CapacityRound x = demand(10, 20, 10);
            x.offer(2, 10, 100, exit, 1);
            boolean gains = exit < 10;
            dueAuction("ten units worth 10 for " + exit, x, 3, gains ? 9 : 0, gains);
            Checks.due("run", x.run(3), gains ? 1 : 0);
            Checks.due("bought(3)", x.bought(3), gains ? 10 : 0);
        }
        // the values are 6, 4, 2 and 0: four units are worth 12, two of them 10
        int[][] rows = {{4, 2, 1}, {4, 3, 0}, {4, 4, 0}, {2, 4, 1}, {2, 5, 0}, {2, 6, 0}, {1, 5, 1}, {1, 6, 0}};
        for (int[] row : rows) {
            CapacityRound x = demand(0, 4, 8);
            x.offer(2, row[0], 100, row[1], 1);
            dueAuction(row[0] + " units for " + row[1], x, 3, row[2] * row[1], row[2] == 1);
            Checks.due("run", x.run(3), row[2]);
        }
    }

    /** "Of several the least." */
    private static void ofSeveralTheLeast() {
        for (int exit = 9; exit <= 11; exit++) {
            CapacityRound x = demand(10, 20, 10);
            x.offer(0, 4, 100, 3, 1);
            x.offer(1, 3, 100, exit, 1);
            x.offer(2, 3, 100, exit, 1);
            boolean gains = exit < 10;
            dueAuction("one at 3 and two at " + exit, x, 3, gains ? 9 : 3, true, gains, gains);
            Checks.due("run", x.run(3), gains ? 3 : 1);
            Checks.due("bought(3)", x.bought(3), gains ? 10 : 4);
            Checks.due("income(0, 3)", x.income(0, 3), gains ? 36 : 12);
        }
        CapacityRound none = demand(10, 20, 10);
        for (int number = 0; number < 12; number++) {
            none.offer(0, 1, number % 2 == 0 ? 100 : 50, 10, 1 + number % 4);
        }
        // thirteen times the same welfare
        dueAuction("twelve at the top price", none, 3, 0,
                false, false, false, false, false, false, false, false, false, false, false, false);
        Checks.due("run", none.run(3), 0);
        Checks.due("bought(3)", none.bought(3), 0);
    }

    /** Units behind the last one that has a value add no welfare, even for nothing. */
    private static void gainOfTheLastUnit() {
        for (int first = 17; first <= 21; first++) {
            CapacityRound x = demand(10, 20, 10);
            x.offer(0, first, 100, 0, 1);
            x.offer(1, 1, 100, 0, 1);
            // the unit 18 is worth 2, the unit 19 is worth 1, the unit 20 nothing
            boolean gains = first < 19;
            dueAuction("one unit behind " + first, x, 0, 0, true, gains);
            Checks.due("run", x.run(0), gains ? 2 : 1);
            Checks.due("bought(0)", x.bought(0), gains ? first + 1 : first);
        }
    }

    /** "The worth of the amount that was bought for the year already and their amounts, together." */
    private static void whatWasBoughtStandsAhead() {
        for (int already = 17; already <= 21; already++) {
            CapacityRound x = demand(10, 20, 10);
            x.offer(0, already, 100, 0, 2);
            Checks.due("run(1)", x.run(1), 1);
            x.offer(1, 1, 100, 0, 1);
            boolean gains = already < 19;
            dueAuction("behind " + already, x, 1, 0, gains);
            dueAuction("the year behind " + already, x, 2, 0, gains);
            dueAuction("the year ahead", x, 0, 0, true);
            dueAuction("two years behind", x, 3, 0, true);
            Checks.due("run(2)", x.run(2), gains ? 1 : 0);
            Checks.due("bought(1)", x.bought(1), already);
            Checks.due("bought(2)", x.bought(2), gains ? already + 1 : already);
        }
        CapacityRound x = demand(30, 31, 10);
        x.offer(0, 30, 100, 0, 1);
        x.run(0);
        x.offer(0, 1, 100, 9, 1);
        dueAuction("31 of 30", x, 0, 0, false);
        x.setDemand(31, 32, 10);
        dueAuction("31 of 31 for 9", x, 0, 9, true);
        x.setDemand(31, 32, 9);
        dueAuction("31 of 31 for 9, worth 9", x, 0, 0, false);
        x.setDemand(29, 30, 10);
        dueAuction("31 of 29", x, 0, 0, false);
        x.setDemand(29, 32, 30);
        // the unit 31 is worth 30 * 1 / 3
        dueAuction("31 of 29 to 32", x, 0, 9, true);
    }

    /** "The greatest exit price of those that are taken", and "all those that are taken get" it. */
    private static void clearingPriceOfThoseTaken() {
        // demand, price and how many are taken: one unit decides; with 14 the third gains nothing
        int[][] rows = {{1, 0, 0}, {2, 2, 1}, {7, 2, 1}, {8, 5, 2}, {13, 5, 2}, {14, 5, 2}, {15, 8, 3}, {16, 8, 3}};
        for (int[] row : rows) {
            CapacityRound x = demand(row[0], row[0] + 1, 10);
            x.offer(2, 5, 100, 8, 1);
            x.offer(0, 5, 100, 2, 1);
            x.offer(1, 5, 100, 5, 1);
            String what = "a demand of " + row[0];
            dueAuction(what, x, 4, row[1], row[2] > 2, row[2] > 0, row[2] > 1);
            Checks.due(what + ": run", x.run(4), row[2]);
            Checks.due(what + ": income(0, 4)", x.income(0, 4), 5 * row[1]);
            Checks.due(what + ": income(1, 4)", x.income(1, 4), row[2] > 1 ? 5 * row[1] : 0);
            Checks.due(what + ": income(2, 4)", x.income(2, 4), row[2] > 2 ? 5 * row[1] : 0);
        }
    }

    /** Promise 9: "all offers are in at the price 1000", and the price falls "down to -1". */
    private static void exitPricesAtTheEndsOfTheClock() {
        int[][] rows = {{0, 0, 1}, {1, 1, 1}, {2, 2, 1}, {998, 998, 1}, {999, 999, 1}, {1000, 0, 0}};
        for (int[] row : rows) {
            CapacityRound x = demand(1000, 1001, 1000);
            x.offer(0, 2, 100, row[0], 1);
            dueAuction("alone at " + row[0], x, 0, row[1], row[2] == 1);
            x.offer(1, 2, 100, 0, 1);
            x.offer(2, 2, 100, 1000, 1);
            dueAuction("between 0 and 1000", x, 0, row[1], row[2] == 1, true, false);
        }
        CapacityRound none = demand(0, 1, 1000);
        none.offer(0, 2, 100, 0, 1);
        // no unit is worth anything: even for nothing none is taken
        dueAuction("at 0 where nothing is worth anything", none, 0, 0, false);
        Checks.due("run", none.run(0), 0);
    }

    /** "In the year and the years behind it, as many as their term tells in all, but not behind year 7." */
    private static void termsBehindYearSeven() {
        for (int first = 0; first < 8; first++) {
            for (int term = 1; term <= 4; term++) {
                CapacityRound x = new CapacityRound();
                x.offer(3, 6, 100, 7, term);
                Checks.due("run(" + first + ")", x.run(first), 1);
                int last = Math.min(7, first + term - 1);
                for (int year = 0; year < 8; year++) {
                    int amount = year < first || year > last ? 0 : 6;
                    String what = "term " + term + " from year " + first + ", year " + year + ": ";
                    Checks.due(what + "bought", x.bought(year), amount);
                    for (int party = 2; party < 5; party++) {
                        Checks.due(what + "income", x.income(party, year), party == 3 ? 7 * amount : 0);
                    }
                    for (int hour = 0; hour < 12; hour++) {
                        Checks.due(what + "obligation", x.obligation(3, year, hour), amount);
                        Checks.due(what + "obligation of the next", x.obligation(4, year, hour), 0);
                        Checks.due(what + "obligation of the one before", x.obligation(2, year, hour), 0);
                    }
                }
            }
        }
    }

    /** Years of several auctions add up where they meet, and nowhere else. */
    private static void auctionsForYearsBehind() {
        CapacityRound x = new CapacityRound();
        x.offer(0, 10, 100, 5, 4);
        x.run(0);
        x.offer(0, 20, 100, 3, 1);
        x.run(3);
        x.offer(1, 7, 100, 2, 1);
        x.run(4);
        x.offer(0, 5, 100, 1, 4);
        x.run(7);
        x.offer(2, 4, 100, 6, 4);
        x.run(6);
        int[] bought = {10, 10, 10, 30, 7, 0, 4, 9};
        int[] income = {50, 50, 50, 110, 0, 0, 0, 5};
        for (int year = 0; year < 8; year++) {
            Checks.due("bought(" + year + ")", x.bought(year), bought[year]);
            Checks.due("income(0, " + year + ")", x.income(0, year), income[year]);
            Checks.due("income(1, " + year + ")", x.income(1, year), year == 4 ? 14 : 0);
            Checks.due("income(2, " + year + ")", x.income(2, year), year < 6 ? 0 : 24);
        }
    }

    private static void dueAccount(String what, CapacityRound x, int year, int bought, int income, int obligation) {
        Checks.due(what + ": bought(" + year + ")", x.bought(year), bought);
        Checks.due(what + ": income(0, " + year + ")", x.income(0, year), income);
        for (int hour = 0; hour < 12; hour++) {
            Checks.due(what + ": obligation(0, " + year + ", " + hour + ")", x.obligation(0, year, hour), obligation);
        }
    }

    /** "0 if none are": an auction that takes none changes nothing but that the offers are gone. */
    private static void noneAreTaken() {
        CapacityRound x = new CapacityRound();
        x.offer(0, 30, 100, 4, 3);
        x.run(5);
        for (int year = 0; year < 8; year++) {
            for (int number = 0; number < 12; number++) {
                x.offer(0, 300, 100, 50 + number, 1 + number % 4);
            }
            // the dearest unit is worth 50
            dueAuction("all too dear", x, year, 0, false, false);
            Checks.due("run(" + year + ")", x.run(year), 0);
            Checks.due("offers()", x.offers(), 0);
            Checks.due("supply(1000)", x.supply(1000), 0);
            Checks.due("clearing", x.clearing(year), 0);
            Checks.due("clearingByClock", x.clearingByClock(year), 0);
        }
        for (int year = 0; year < 8; year++) {
            boolean inside = year >= 5;
            dueAccount("none taken", x, year, inside ? 30 : 0, inside ? 120 : 0, inside ? 30 : 0);
        }
        Checks.dueThrow("run(0) behind it", Checks.STATE, () -> x.run(0));
    }

    /** "All offers that waited are gone then", those that were not taken too. */
    private static void allAreGone() {
        for (int dear = 0; dear <= 12; dear++) {
            CapacityRound x = new CapacityRound();
            for (int number = 0; number < 12; number++) {
                x.offer(0, 2, 100, number < dear ? 50 : 3, 1);
            }
            String what = dear + " of twelve too dear: ";
            Checks.due(what + "run", x.run(0), 12 - dear);
            Checks.due(what + "offers()", x.offers(), 0);
            Checks.due(what + "supply(1000)", x.supply(1000), 0);
            Checks.due(what + "clearing(1)", x.clearing(1), 0);
            Checks.due(what + "clearingByClock(1)", x.clearingByClock(1), 0);
            Checks.dueThrow(what + "wouldTake(0, 1)", Checks.INDEX, () -> x.wouldTake(0, 1));
            Checks.dueThrow(what + "run(1)", Checks.STATE, () -> x.run(1));
            Checks.due(what + "the next number", x.offer(1, 9, 100, 2, 1), 0);
            dueAuction(what + "the next auction", x, 1, 2, true);
            Checks.due(what + "run(1)", x.run(1), 1);
            dueAccount(what + "year 0", x, 0, 2 * (12 - dear), dear == 12 ? 0 : 6 * (12 - dear), 2 * (12 - dear));
            dueAccount(what + "year 1", x, 1, 9, 0, 0);
        }
    }
}
