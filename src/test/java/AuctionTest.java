/** Promises 8 to 13: clearing, clearingByClock, wouldTake, run, bought, income. */
public final class AuctionTest {
    public static void main(String[] args) {
        theGreatestWelfareIsTaken();
        anOfferIsTakenWholeOrNotAtAll();
        aGainOfOneIsEnough();
        ofTheSameWelfareTheFewest();
        theSamePriceGoesByNumber();
        offersOfNoAmount();
        whatWasBoughtAlreadyCounts();
        aTermReachesIntoYearsBehind();
        aTermEndsWithYearSeven();
        twoAuctionsAddUp();
        largestAuction();
        askingChangesNothing();
        wrongYears();
        wrongOffers();
        runWithoutOffers();
        Checks.finish();
    }

    private static void duePrice(String what, CapacityRound x, int year, int price) {
        Checks.due(what + ": clearing", x.clearing(year), price);
        Checks.due(what + ": clearingByClock", x.clearingByClock(year), price);
    }

    private static void dueTaken(String what, CapacityRound x, int year, boolean... taken) {
        for (int offer = 0; offer < taken.length; offer++) {
            Checks.due(what + ": wouldTake(" + offer + ")", x.wouldTake(offer, year), taken[offer]);
        }
    }

    private static void theGreatestWelfareIsTaken() {
        CapacityRound x = new CapacityRound();
        duePrice("no offers", x, 0, 0);
        x.offer(3, 40, 100, 30, 1);
        x.offer(2, 60, 50, 20, 4);
        x.offer(0, 100, 90, 10, 1);
        x.offer(1, 50, 100, 20, 2);
        duePrice("four offers", x, 0, 20);
        dueTaken("four offers", x, 0, false, true, true, true);
        Checks.due("run", x.run(0), 3);
        Checks.due("bought(0)", x.bought(0), 170);
        Checks.due("bought(1)", x.bought(1), 80);
        Checks.due("bought(2)", x.bought(2), 30);
        Checks.due("bought(3)", x.bought(3), 30);
        Checks.due("bought(4)", x.bought(4), 0);
        Checks.due("income(0, 0): all get the clearing price", x.income(0, 0), 1800);
        Checks.due("income(0, 1)", x.income(0, 1), 0);
        Checks.due("income(1, 1)", x.income(1, 1), 1000);
        Checks.due("income(2, 3)", x.income(2, 3), 600);
        Checks.due("income(2, 4)", x.income(2, 4), 0);
        Checks.due("income(3, 0)", x.income(3, 0), 0);
    }

    private static void anOfferIsTakenWholeOrNotAtAll() {
        CapacityRound x = new CapacityRound();
        x.setDemand(100, 101, 10);
        x.offer(0, 90, 100, 1, 1);
        x.offer(1, 30, 100, 4, 1);
        // ten units more are worth 100, the whole of the second offer costs 120
        duePrice("the second is too large", x, 0, 1);
        dueTaken("the second is too large", x, 0, true, false);
        Checks.due("run", x.run(0), 1);
        Checks.due("bought(0)", x.bought(0), 90);
    }

    private static void aGainOfOneIsEnough() {
        CapacityRound x = new CapacityRound();
        x.offer(0, 1, 100, 49, 1);
        duePrice("a unit worth 50 for 49", x, 0, 49);
        dueTaken("a unit worth 50 for 49", x, 0, true);
        x.offer(1, 1, 100, 50, 1);
        duePrice("and one for 50", x, 0, 49);
        dueTaken("and one for 50", x, 0, true, false);
        Checks.due("run", x.run(0), 1);
    }

    private static void ofTheSameWelfareTheFewest() {
        CapacityRound x = new CapacityRound();
        x.setDemand(10, 20, 10);
        x.offer(0, 10, 100, 10, 1);
        duePrice("an offer that costs what it is worth", x, 0, 0);
        dueTaken("an offer that costs what it is worth", x, 0, false);
        x.offer(1, 5, 100, 5, 1);
        x.offer(2, 5, 100, 10, 1);
        // the first five units at 5 win 25, the next five at 10 win nothing
        duePrice("the tie stays out", x, 0, 5);
        dueTaken("the tie stays out", x, 0, false, true, false);
        Checks.due("run", x.run(0), 1);
        Checks.due("bought(0)", x.bought(0), 5);

        CapacityRound none = new CapacityRound();
        none.offer(4, 300, 100, 1000, 1);
        duePrice("none is worth its price", none, 0, 0);
        Checks.due("run that takes none", none.run(0), 0);
        Checks.due("offers() behind it", none.offers(), 0);
        Checks.due("bought(0)", none.bought(0), 0);
        Checks.due("income(4, 0)", none.income(4, 0), 0);
        Checks.due("obligation(4, 0, 0)", none.obligation(4, 0, 0), 0);
    }

    private static void theSamePriceGoesByNumber() {
        CapacityRound x = new CapacityRound();
        x.setDemand(10, 11, 10);
        x.offer(0, 5, 100, 4, 1);
        x.offer(1, 30, 100, 4, 1);
        x.offer(2, 5, 100, 4, 1);
        duePrice("the second is in the way of the third", x, 0, 4);
        dueTaken("the second is in the way of the third", x, 0, true, false, false);
        Checks.due("run", x.run(0), 1);

        x.offer(0, 30, 100, 4, 1);
        x.offer(1, 5, 100, 4, 1);
        x.offer(2, 5, 100, 3, 1);
        duePrice("only the cheaper one passes by", x, 1, 3);
        dueTaken("only the cheaper one passes by", x, 1, false, false, true);

        CapacityRound y = new CapacityRound();
        y.setDemand(25, 26, 10);
        for (int n = 0; n < 12; n++) {
            y.offer(n % 5, 5, 100, n % 2 == 0 ? 7 : 2, 1);
        }
        // five of the six at 2 fill the 25 units that are worth anything
        duePrice("odd numbers are cheaper", y, 0, 2);
        dueTaken("odd numbers are cheaper", y, 0,
                false, true, false, true, false, true, false, true, false, true, false, false);
        Checks.due("run", y.run(0), 5);
    }

    private static void offersOfNoAmount() {
        CapacityRound x = new CapacityRound();
        x.offer(0, 1, 99, 0, 4);
        duePrice("nothing alone", x, 6, 0);
        dueTaken("nothing alone", x, 6, false);
        x.offer(1, 10, 100, 3, 1);
        x.offer(2, 300, 0, 3, 1);
        // what has no amount is taken where it stands ahead of one that is, and not behind it
        duePrice("nothing ahead and behind", x, 6, 3);
        dueTaken("nothing ahead and behind", x, 6, true, true, false);
        x.offer(3, 10, 100, 4, 1);
        duePrice("nothing between", x, 6, 4);
        dueTaken("nothing between", x, 6, true, true, true, true);
        Checks.due("run", x.run(6), 4);
        Checks.due("bought(6)", x.bought(6), 20);
        Checks.due("bought(7)", x.bought(7), 0);
        Checks.due("income(1, 6)", x.income(1, 6), 40);
        Checks.due("income(0, 6)", x.income(0, 6), 0);
        Checks.due("income(2, 6)", x.income(2, 6), 0);
    }

    private static void whatWasBoughtAlreadyCounts() {
        CapacityRound x = new CapacityRound();
        x.setDemand(60, 120, 40);
        x.offer(0, 80, 100, 2, 2);
        Checks.due("run(0)", x.run(0), 1);
        x.offer(1, 10, 100, 24, 1);
        x.offer(2, 10, 100, 25, 1);
        // units 81 to 90 are worth 26 to 20, 230 in all
        duePrice("year 0 has 80 units", x, 0, 0);
        duePrice("year 1 has 80 units", x, 1, 0);
        duePrice("year 2 has none", x, 2, 25);
        dueTaken("year 1 has 80 units", x, 1, false, false);
        dueTaken("year 2 has none", x, 2, true, true);
        x.offer(3, 10, 100, 22, 1);
        duePrice("cheap enough for year 1", x, 1, 22);
        dueTaken("cheap enough for year 1", x, 1, false, false, true);
        Checks.due("run(1)", x.run(1), 1);
        Checks.due("bought(1)", x.bought(1), 90);
        Checks.due("bought(0)", x.bought(0), 80);
        Checks.due("income(3, 1)", x.income(3, 1), 220);
        Checks.due("income(0, 1): the earlier price stays", x.income(0, 1), 160);
        x.setDemand(60, 85, 40);
        x.offer(1, 1, 100, 0, 1);
        duePrice("year 1 is past the upper amount", x, 1, 0);
        dueTaken("year 1 is past the upper amount", x, 1, false);
        dueTaken("year 0 is not", x, 0, true);
    }

    private static void aTermReachesIntoYearsBehind() {
        for (int term = 1; term <= 4; term++) {
            CapacityRound x = new CapacityRound();
            x.offer(2, 40, 50, 7, term);
            Checks.due("run(2)", x.run(2), 1);
            for (int year = 0; year < 8; year++) {
                boolean inside = year >= 2 && year < 2 + term;
                String what = "term " + term + ", year " + year + ": ";
                Checks.due(what + "bought", x.bought(year), inside ? 20 : 0);
                Checks.due(what + "income", x.income(2, year), inside ? 140 : 0);
                Checks.due(what + "income of another", x.income(1, year), 0);
                for (int hour = 0; hour < 12; hour++) {
                    Checks.due(what + "obligation", x.obligation(2, year, hour), inside ? 20 : 0);
                    Checks.due(what + "obligation of another", x.obligation(3, year, hour), 0);
                }
            }
        }
    }

    private static void aTermEndsWithYearSeven() {
        for (int first = 4; first < 8; first++) {
            CapacityRound x = new CapacityRound();
            x.offer(0, 10, 100, 3, 4);
            x.offer(4, 10, 100, 5, 4);
            Checks.due("run(" + first + ")", x.run(first), 2);
            for (int year = 0; year < 8; year++) {
                Checks.due("bought(" + year + ")", x.bought(year), year >= first ? 20 : 0);
                Checks.due("income(0, " + year + ")", x.income(0, year), year >= first ? 50 : 0);
                Checks.due("income(1, " + year + ")", x.income(1, year), 0);
                Checks.due("income(4, " + year + ")", x.income(4, year), year >= first ? 50 : 0);
                Checks.due("obligation(4, " + year + ", 11)", x.obligation(4, year, 11), year >= first ? 10 : 0);
                Checks.due("obligation(1, " + year + ", 0)", x.obligation(1, year, 0), 0);
            }
        }
    }

    private static void twoAuctionsAddUp() {
        CapacityRound x = new CapacityRound();
        x.offer(0, 10, 100, 3, 3);
        x.run(0);
        x.offer(0, 20, 100, 5, 2);
        x.offer(0, 5, 100, 1, 1);
        x.run(1);
        Checks.due("income(0, 0)", x.income(0, 0), 30);
        Checks.due("income(0, 1)", x.income(0, 1), 30 + 125);
        Checks.due("income(0, 2)", x.income(0, 2), 30 + 100);
        Checks.due("income(0, 3)", x.income(0, 3), 0);
        Checks.due("bought(1)", x.bought(1), 35);
        Checks.due("obligation(0, 2, 6)", x.obligation(0, 2, 6), 30);
    }

    private static void largestAuction() {
        CapacityRound x = new CapacityRound();
        x.setDemand(1000, 1001, 1000);
        for (int n = 0; n < 12; n++) {
            x.offer(4, 300, 100, 700, 4);
        }
        // the fourth brings a worth of 100 units at 1000 and a cost of 300 units at 700
        duePrice("twelve times 300", x, 0, 700);
        Checks.due("run", x.run(0), 3);
        Checks.due("income(4, 3)", x.income(4, 3), 630000);
        for (int n = 0; n < 12; n++) {
            x.offer(4, 300, 100, 1000, 4);
        }
        duePrice("a hundred units are left", x, 0, 0);
        duePrice("all at the top price", x, 4, 0);
        Checks.due("run", x.run(4), 0);
    }

    private static void askingChangesNothing() {
        CapacityRound x = new CapacityRound();
        x.offer(0, 30, 100, 9, 1);
        x.offer(1, 30, 100, 3, 1);
        x.offer(2, 30, 100, 9, 1);
        for (int round = 0; round < 3; round++) {
            duePrice("asked again", x, 0, 9);
            dueTaken("asked again", x, 0, true, true, true);
            Checks.due("supply(9)", x.supply(9), 90);
            Checks.due("offers()", x.offers(), 3);
            Checks.due("bought(0)", x.bought(0), 0);
        }
    }

    private static void wrongYears() {
        CapacityRound x = new CapacityRound();
        x.offer(0, 30, 100, 9, 1);
        int[] wrong = {-1, 8, Integer.MIN_VALUE, Integer.MAX_VALUE};
        for (int year : wrong) {
            Checks.dueThrow("clearing(" + year + ")", Checks.INDEX, () -> x.clearing(year));
            Checks.dueThrow("clearingByClock(" + year + ")", Checks.INDEX, () -> x.clearingByClock(year));
            Checks.dueThrow("wouldTake(0, " + year + ")", Checks.INDEX, () -> x.wouldTake(0, year));
            Checks.dueThrow("run(" + year + ")", Checks.INDEX, () -> x.run(year));
            Checks.dueThrow("run(" + year + ") without offers", Checks.INDEX, () -> new CapacityRound().run(year));
            Checks.dueThrow("bought(" + year + ")", Checks.INDEX, () -> x.bought(year));
            Checks.dueThrow("income(0, " + year + ")", Checks.INDEX, () -> x.income(0, year));
        }
        int[] parties = {-1, 5, Integer.MIN_VALUE, Integer.MAX_VALUE};
        for (int party : parties) {
            Checks.dueThrow("income(" + party + ", 0)", Checks.INDEX, () -> x.income(party, 0));
        }
        Checks.dueThrow("income(4, 7)", Checks.NOTHING, () -> x.income(4, 7));
        Checks.due("offers() behind calls that threw", x.offers(), 1);
        Checks.dueThrow("run(7)", Checks.NOTHING, () -> x.run(7));
    }

    private static void wrongOffers() {
        CapacityRound x = new CapacityRound();
        Checks.dueThrow("wouldTake(0, 0) without offers", Checks.INDEX, () -> x.wouldTake(0, 0));
        x.offer(0, 30, 100, 9, 1);
        x.offer(0, 30, 100, 9, 1);
        int[] wrong = {-1, 2, 12, Integer.MIN_VALUE, Integer.MAX_VALUE};
        for (int offer : wrong) {
            Checks.dueThrow("wouldTake(" + offer + ", 0)", Checks.INDEX, () -> x.wouldTake(offer, 0));
        }
        Checks.dueThrow("wouldTake(1, 7)", Checks.NOTHING, () -> x.wouldTake(1, 7));
        x.run(0);
        Checks.dueThrow("wouldTake(0, 0) behind the auction", Checks.INDEX, () -> x.wouldTake(0, 0));
    }

    private static void runWithoutOffers() {
        CapacityRound x = new CapacityRound();
        for (int year = 0; year < 8; year++) {
            int of = year;
            Checks.dueThrow("run(" + of + ") without offers", Checks.STATE, () -> x.run(of));
        }
        x.offer(0, 30, 100, 9, 1);
        x.run(0);
        Checks.dueThrow("run(0) again", Checks.STATE, () -> x.run(0));
        Checks.due("bought(0)", x.bought(0), 30);
    }
}
