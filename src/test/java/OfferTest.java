/** Promises 5 to 7: offer, offers, supply. */
public final class OfferTest {
    public static void main(String[] args) {
        offersAreNumbered();
        supplyCountsExitPricesUpToThePrice();
        amountsAreRoundedDown();
        offerOutOfRange();
        offerWhenTwelveWait();
        theFirstExceptionGoesFirst();
        supplyOutOfRange();
        Checks.finish();
    }

    private static void offersAreNumbered() {
        CapacityRound x = new CapacityRound();
        for (int n = 0; n < 12; n++) {
            Checks.due("offers()", x.offers(), n);
            Checks.due("offer", x.offer(n % 5, 10, 100, 50 - n, 1 + n % 4), n);
        }
        Checks.due("offers()", x.offers(), 12);
        x.run(3);
        Checks.due("offers() behind an auction", x.offers(), 0);
        Checks.due("supply(1000) behind an auction", x.supply(1000), 0);
        Checks.due("offer behind an auction", x.offer(0, 10, 100, 1, 1), 0);
        Checks.due("offer behind an auction", x.offer(0, 10, 100, 1, 1), 1);
    }

    private static void supplyCountsExitPricesUpToThePrice() {
        CapacityRound x = new CapacityRound();
        x.offer(0, 100, 90, 10, 1);
        x.offer(1, 50, 100, 1000, 2);
        x.offer(2, 60, 50, 0, 4);
        x.offer(3, 40, 100, 10, 1);
        Checks.due("supply(0)", x.supply(0), 30);
        Checks.due("supply(9)", x.supply(9), 30);
        Checks.due("supply(10)", x.supply(10), 160);
        Checks.due("supply(11)", x.supply(11), 160);
        Checks.due("supply(999)", x.supply(999), 160);
        Checks.due("supply(1000)", x.supply(1000), 210);
    }

    private static void amountsAreRoundedDown() {
        int[][] rows = {
            {1, 0, 0}, {1, 99, 0}, {1, 100, 1}, {3, 50, 1}, {3, 33, 0}, {3, 34, 1}, {300, 100, 300}, {300, 0, 0},
            {299, 99, 296}, {7, 57, 3}, {200, 1, 2}, {199, 1, 1},
        };
        for (int[] row : rows) {
            CapacityRound x = new CapacityRound();
            x.offer(0, row[0], row[1], 0, 1);
            Checks.due("amount of " + row[0] + " at " + row[1] + " percent", x.supply(0), row[2]);
        }
    }

    private static void offerOutOfRange() {
        CapacityRound x = new CapacityRound();
        int low = Integer.MIN_VALUE;
        int high = Integer.MAX_VALUE;
        int[] parties = {-1, 5, low, high};
        for (int party : parties) {
            Checks.dueThrow("offer of party " + party, Checks.INDEX, () -> x.offer(party, 1, 1, 1, 1));
        }
        int[][] wrong = {
            {0, 1, 1, 1}, {-1, 1, 1, 1}, {301, 1, 1, 1}, {low, 1, 1, 1}, {high, 1, 1, 1},
            {1, -1, 1, 1}, {1, 101, 1, 1}, {1, low, 1, 1}, {1, high, 1, 1},
            {1, 1, -1, 1}, {1, 1, 1001, 1}, {1, 1, low, 1}, {1, 1, high, 1},
            {1, 1, 1, 0}, {1, 1, 1, 5}, {1, 1, 1, -1}, {1, 1, 1, low}, {1, 1, 1, high},
        };
        for (int[] a : wrong) {
            Checks.dueThrow("offer(0, " + a[0] + ", " + a[1] + ", " + a[2] + ", " + a[3] + ")", Checks.ARGUMENT,
                    () -> x.offer(0, a[0], a[1], a[2], a[3]));
        }
        Checks.due("offers() behind offers that were refused", x.offers(), 0);
        int[][] right = {{1, 1, 1, 1}, {300, 100, 1000, 4}, {1, 0, 0, 1}};
        for (int[] a : right) {
            Checks.dueThrow("offer(4, " + a[0] + ", " + a[1] + ", " + a[2] + ", " + a[3] + ")", Checks.NOTHING,
                    () -> x.offer(4, a[0], a[1], a[2], a[3]));
        }
        Checks.due("offers()", x.offers(), 3);
    }

    private static CapacityRound full() {
        CapacityRound x = new CapacityRound();
        for (int n = 0; n < 12; n++) {
            x.offer(0, 10, 100, n, 1);
        }
        return x;
    }

    private static void offerWhenTwelveWait() {
        CapacityRound x = full();
        Checks.dueThrow("the 13th offer", Checks.STATE, () -> x.offer(0, 10, 100, 0, 1));
        Checks.due("offers()", x.offers(), 12);
        Checks.due("supply(0)", x.supply(0), 10);
        x.run(0);
        Checks.dueThrow("an offer behind the auction", Checks.NOTHING, () -> x.offer(0, 10, 100, 0, 1));
    }

    private static void theFirstExceptionGoesFirst() {
        CapacityRound x = full();
        Checks.dueThrow("no party, no capacity, 12 wait", Checks.INDEX, () -> x.offer(5, 0, 101, -1, 5));
        Checks.dueThrow("no party, 12 wait", Checks.INDEX, () -> x.offer(-1, 1, 1, 1, 1));
        Checks.dueThrow("no capacity, 12 wait", Checks.ARGUMENT, () -> x.offer(0, 0, 1, 1, 1));
        Checks.dueThrow("no term, 12 wait", Checks.ARGUMENT, () -> x.offer(0, 1, 1, 1, 0));
        Checks.dueThrow("no party, no term", Checks.INDEX, () -> new CapacityRound().offer(5, 1, 1, 1, 0));
    }

    private static void supplyOutOfRange() {
        CapacityRound x = new CapacityRound();
        int[] wrong = {-1, 1001, Integer.MIN_VALUE, Integer.MAX_VALUE};
        for (int price : wrong) {
            Checks.dueThrow("supply(" + price + ")", Checks.ARGUMENT, () -> x.supply(price));
        }
        Checks.dueThrow("supply(0)", Checks.NOTHING, () -> x.supply(0));
        Checks.dueThrow("supply(1000)", Checks.NOTHING, () -> x.supply(1000));
    }
}
