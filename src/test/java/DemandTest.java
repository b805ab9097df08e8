/** Promises 1 to 4: a new object, setDemand, value, worth. */
public final class DemandTest {
    public static void main(String[] args) {
        aNewObjectIsEmpty();
        demandAtFirst();
        demandThatWasSet();
        steepestAndWidestDemand();
        demandOutOfRange();
        valueOutOfRange();
        worthOutOfRange();
        worthIsTheSumOfValues();
        Checks.finish();
    }

    private static void aNewObjectIsEmpty() {
        CapacityRound x = new CapacityRound();
        Checks.due("NONE", CapacityRound.NONE, -1);
        Checks.due("offers()", x.offers(), 0);
        Checks.due("supply(1000)", x.supply(1000), 0);
        Checks.due("trades()", x.trades(), 0);
        Checks.due("penalties()", x.penalties(), 0);
        for (int year = 0; year < 8; year++) {
            Checks.due("clearing", x.clearing(year), 0);
            Checks.due("clearingByClock", x.clearingByClock(year), 0);
            Checks.due("bought", x.bought(year), 0);
            for (int party = 0; party < 5; party++) {
                Checks.due("income", x.income(party, year), 0);
                Checks.due("lack", x.lack(party, year), 0);
                Checks.due("penalty", x.penalty(party, year), 0);
            }
        }
        x.offer(0, 10, 100, 5, 1);
        Checks.due("offers() of another new object", new CapacityRound().offers(), 0);
        aNewObjectHasNoObligations();
    }

    private static void aNewObjectHasNoObligations() {
        CapacityRound x = new CapacityRound();
        for (int party = 0; party < 5; party++) {
            for (int year = 0; year < 8; year++) {
                for (int hour = 0; hour < 12; hour++) {
                    Checks.due("obligation", x.obligation(party, year, hour), 0);
                }
            }
        }
    }

    private static void demandAtFirst() {
        CapacityRound x = new CapacityRound();
        Checks.due("value(1)", x.value(1), 50);
        Checks.due("value(100)", x.value(100), 50);
        Checks.due("value(101)", x.value(101), 49);
        Checks.due("value(102)", x.value(102), 49);
        Checks.due("value(103)", x.value(103), 48);
        Checks.due("value(199)", x.value(199), 0);
        Checks.due("value(198)", x.value(198), 1);
        Checks.due("value(200)", x.value(200), 0);
        Checks.due("value(201)", x.value(201), 0);
        Checks.due("value(10000)", x.value(10000), 0);
        Checks.due("worth(0)", x.worth(0), 0);
        Checks.due("worth(1)", x.worth(1), 50);
        Checks.due("worth(101)", x.worth(101), 5049);
        Checks.due("worth(200)", x.worth(200), 7450);
        Checks.due("worth(10000)", x.worth(10000), 7450);
    }

    private static void demandThatWasSet() {
        CapacityRound x = new CapacityRound();
        x.setDemand(0, 3, 10);
        Checks.due("value(1)", x.value(1), 6);
        Checks.due("value(2)", x.value(2), 3);
        Checks.due("value(3)", x.value(3), 0);
        Checks.due("value(4)", x.value(4), 0);
        Checks.due("worth(2)", x.worth(2), 9);
        Checks.due("worth(9)", x.worth(9), 9);
        x.setDemand(2, 4, 7);
        Checks.due("value(2)", x.value(2), 7);
        Checks.due("value(3)", x.value(3), 3);
        Checks.due("value(4)", x.value(4), 0);
        Checks.due("worth(4)", x.worth(4), 17);
        Checks.due("worth(500)", x.worth(500), 17);
    }

    private static void steepestAndWidestDemand() {
        CapacityRound x = new CapacityRound();
        x.setDemand(1000, 1001, 1000);
        Checks.due("value(1000)", x.value(1000), 1000);
        Checks.due("value(1001)", x.value(1001), 0);
        Checks.due("worth(1000)", x.worth(1000), 1000000);
        Checks.due("worth(1001)", x.worth(1001), 1000000);
        Checks.due("worth(10000)", x.worth(10000), 1000000);
        x.setDemand(0, 1001, 1000);
        Checks.due("value(1)", x.value(1), 999);
        Checks.due("value(1000)", x.value(1000), 0);
        Checks.due("value(501)", x.value(501), 499);
        x.setDemand(0, 1, 1);
        Checks.due("value(1)", x.value(1), 0);
        Checks.due("worth(1001)", x.worth(1001), 0);
    }

    private static void demandOutOfRange() {
        CapacityRound x = new CapacityRound();
        int[][] wrong = {
            {-1, 5, 5}, {1001, 1002, 5}, {1001, 1001, 5}, {5, 5, 5}, {5, 4, 5}, {5, 1002, 5}, {5, -6, 5},
            {5, 6, 0}, {5, 6, 1001}, {5, 6, -1},
            {Integer.MAX_VALUE, Integer.MIN_VALUE, 5}, {Integer.MIN_VALUE, 5, 5},
            {0, Integer.MAX_VALUE, 5}, {0, 1, Integer.MAX_VALUE}, {0, 1, Integer.MIN_VALUE},
        };
        for (int[] a : wrong) {
            Checks.dueThrow("setDemand(" + a[0] + ", " + a[1] + ", " + a[2] + ")", Checks.ARGUMENT,
                    () -> x.setDemand(a[0], a[1], a[2]));
            Checks.due("worth(150) after a demand that was refused", x.worth(150),
                    new CapacityRound().worth(150));
            Checks.due("value(150) after a demand that was refused", x.value(150), 25);
        }
        int[][] right = {{0, 1, 1}, {0, 1001, 1000}, {1000, 1001, 1}, {999, 1000, 1000}};
        for (int[] a : right) {
            Checks.dueThrow("setDemand(" + a[0] + ", " + a[1] + ", " + a[2] + ")", Checks.NOTHING,
                    () -> x.setDemand(a[0], a[1], a[2]));
        }
    }

    private static void valueOutOfRange() {
        CapacityRound x = new CapacityRound();
        int[] wrong = {0, -1, 10001, Integer.MIN_VALUE, Integer.MAX_VALUE};
        for (int unit : wrong) {
            Checks.dueThrow("value(" + unit + ")", Checks.ARGUMENT, () -> x.value(unit));
        }
        Checks.dueThrow("value(1)", Checks.NOTHING, () -> x.value(1));
        Checks.dueThrow("value(10000)", Checks.NOTHING, () -> x.value(10000));
    }

    private static void worthOutOfRange() {
        CapacityRound x = new CapacityRound();
        int[] wrong = {-1, 10001, Integer.MIN_VALUE, Integer.MAX_VALUE};
        for (int amount : wrong) {
            Checks.dueThrow("worth(" + amount + ")", Checks.ARGUMENT, () -> x.worth(amount));
        }
        Checks.dueThrow("worth(0)", Checks.NOTHING, () -> x.worth(0));
        Checks.dueThrow("worth(10000)", Checks.NOTHING, () -> x.worth(10000));
    }

    private static void worthIsTheSumOfValues() {
        int[][] demands = {{100, 200, 50}, {0, 1001, 997}, {333, 1000, 7}, {0, 1, 1000}, {17, 19, 3}};
        for (int[] d : demands) {
            CapacityRound x = new CapacityRound();
            int sum = 0;
            for (int amount = 1; amount <= 1200; amount++) {
                // nothing is promised behind 512 calls of one object
                if (amount % 200 == 1) {
                    x = new CapacityRound();
                    x.setDemand(d[0], d[1], d[2]);
                }
                sum += x.value(amount);
                Checks.due("worth(" + amount + ") with upper " + d[1], x.worth(amount), sum);
            }
        }
    }
}
