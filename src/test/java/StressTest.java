/** Promises 17 to 22: stress, tell, setPenalty, lack, penalty, penalties. */
public final class StressTest {
    private static final int LOW = Integer.MIN_VALUE;
    private static final int HIGH = Integer.MAX_VALUE;

    public static void main(String[] args) {
        stressIsMadeAndTakenBack();
        tellAnswersWhatWasToldBefore();
        lackOverStressHours();
        lackWithoutObligation();
        penaltyAtFirst();
        penaltyUpToTheCap();
        penaltyIsRoundedDown();
        penaltyBelowZero();
        penaltyWhereTradesMovedTheObligation();
        penaltiesOfAll();
        largestPenalty();
        wrongIndexes();
        wrongOutputs();
        wrongPenalties();
        Checks.finish();
    }

    /** The party has the amount in all hours of the year, and amount * exit of income. */
    private static CapacityRound market(int party, int year, int amount, int exit) {
        CapacityRound x = new CapacityRound();
        x.offer(party, amount, 100, exit, 1);
        x.run(year);
        return x;
    }

    private static void stressIsMadeAndTakenBack() {
        CapacityRound x = market(0, 0, 10, 5);
        Checks.due("stress(0, 11)", x.stress(0, 11), true);
        Checks.due("lack(0, 0)", x.lack(0, 0), 10);
        Checks.due("stress(0, 0)", x.stress(0, 0), true);
        Checks.due("stress(1, 0): the hour behind 11 of year 0", x.stress(1, 0), true);
        Checks.due("lack(0, 0)", x.lack(0, 0), 20);
        Checks.due("stress(0, 11) again", x.stress(0, 11), false);
        Checks.due("lack(0, 0)", x.lack(0, 0), 10);
        Checks.due("stress(0, 11) once more", x.stress(0, 11), true);
        Checks.due("stress(7, 11)", x.stress(7, 11), true);
        Checks.due("stress(7, 11) again", x.stress(7, 11), false);
        Checks.due("lack(0, 0)", x.lack(0, 0), 20);
    }

    private static void tellAnswersWhatWasToldBefore() {
        CapacityRound x = new CapacityRound();
        Checks.due("tell", x.tell(0, 0, 0, 7), 0);
        Checks.due("tell", x.tell(0, 0, 0, 5000), 7);
        Checks.due("tell", x.tell(0, 0, 0, 0), 5000);
        Checks.due("tell", x.tell(0, 0, 0, 1), 0);
        for (int party = 0; party < 5; party++) {
            for (int year = 0; year < 8; year++) {
                for (int hour = 0; hour < 12; hour++) {
                    int own = party * 1000 + year * 100 + hour;
                    int before = own == 0 ? 1 : 0;
                    Checks.due("tell of another cell", x.tell(party, year, hour, own), before);
                }
            }
        }
        Checks.due("tell", x.tell(4, 7, 11, 0), 4711);
        Checks.due("tell", x.tell(3, 0, 10, 0), 3010);
    }

    private static void lackOverStressHours() {
        CapacityRound x = market(1, 3, 40, 5);
        Checks.due("no stress", x.lack(1, 3), 0);
        x.tell(1, 3, 2, 15);
        Checks.due("output without stress", x.lack(1, 3), 0);
        x.stress(3, 2);
        Checks.due("40 less 15", x.lack(1, 3), 25);
        x.stress(3, 3);
        Checks.due("and 40", x.lack(1, 3), 65);
        x.tell(1, 3, 3, 60);
        Checks.due("and 20 above", x.lack(1, 3), 5);
        x.tell(1, 3, 3, 5000);
        Checks.due("far above", x.lack(1, 3), 25 - 4960);
        Checks.due("another year", x.lack(1, 2), 0);
        Checks.due("another party", x.lack(0, 3), 0);
    }

    private static void lackWithoutObligation() {
        CapacityRound x = new CapacityRound();
        for (int hour = 0; hour < 12; hour++) {
            x.stress(7, hour);
            x.tell(4, 7, hour, 5000);
        }
        Checks.due("lack(4, 7)", x.lack(4, 7), -60000);
        Checks.due("penalty(4, 7)", x.penalty(4, 7), 0);
        Checks.due("lack(3, 7)", x.lack(3, 7), 0);
        Checks.due("penalties()", x.penalties(), 0);
    }

    private static void penaltyAtFirst() {
        CapacityRound x = market(0, 0, 50, 20);
        x.stress(0, 0);
        x.tell(0, 0, 0, 30);
        Checks.due("20 * 20", x.penalty(0, 0), 400);
        x.tell(0, 0, 0, 25);
        Checks.due("25 * 20, half of the income", x.penalty(0, 0), 500);
        x.tell(0, 0, 0, 24);
        Checks.due("26 * 20, above half of the income", x.penalty(0, 0), 500);
        x.tell(0, 0, 0, 49);
        Checks.due("1 * 20", x.penalty(0, 0), 20);
    }

    private static void penaltyUpToTheCap() {
        CapacityRound x = market(0, 0, 50, 20);
        x.stress(0, 0);
        int[][] rows = {
            {1000, 200, 2000}, {1000, 0, 0}, {0, 200, 0}, {1000, 100, 1000}, {39, 200, 1950}, {40, 200, 2000},
            {41, 200, 2000}, {1, 50, 50}, {9, 100, 450}, {20, 50, 500}, {1000, 1, 10},
        };
        for (int[] row : rows) {
            x.setPenalty(row[0], row[1]);
            Checks.due("rate " + row[0] + ", cap " + row[1], x.penalty(0, 0), row[2]);
        }
    }

    private static void penaltyIsRoundedDown() {
        CapacityRound x = market(0, 0, 3, 33);
        x.stress(0, 0);
        x.setPenalty(1000, 50);
        Checks.due("half of 99", x.penalty(0, 0), 49);
        x.setPenalty(1000, 1);
        Checks.due("1 percent of 99", x.penalty(0, 0), 0);
        x.setPenalty(1000, 199);
        Checks.due("199 percent of 99", x.penalty(0, 0), 197);
    }

    private static void penaltyBelowZero() {
        CapacityRound x = market(0, 0, 50, 20);
        x.stress(0, 0);
        x.tell(0, 0, 0, 51);
        Checks.due("lack(0, 0)", x.lack(0, 0), -1);
        Checks.due("penalty(0, 0)", x.penalty(0, 0), 0);
        x.tell(0, 0, 0, 50);
        Checks.due("lack(0, 0)", x.lack(0, 0), 0);
        Checks.due("penalty(0, 0)", x.penalty(0, 0), 0);
    }

    private static void penaltyWhereTradesMovedTheObligation() {
        CapacityRound x = market(0, 0, 50, 20);
        x.stress(0, 6);
        x.trade(0, 1, 0, 6, 6, 20);
        Checks.due("lack(0, 0)", x.lack(0, 0), 30);
        Checks.due("lack(1, 0)", x.lack(1, 0), 20);
        x.setPenalty(1, 200);
        Checks.due("penalty(0, 0)", x.penalty(0, 0), 30);
        Checks.due("penalty(1, 0): no income, no penalty", x.penalty(1, 0), 0);
    }

    private static void penaltiesOfAll() {
        CapacityRound x = new CapacityRound();
        for (int party = 0; party < 5; party++) {
            x.offer(party, 10 + party, 100, 10, 4);
        }
        x.run(0);
        for (int party = 0; party < 5; party++) {
            x.offer(party, 20 + party, 100, 10, 4);
        }
        x.run(4);
        x.setPenalty(1, 200);
        Checks.due("no stress", x.penalties(), 0);
        x.stress(0, 0);
        Checks.due("year 0", x.penalties(), 60);
        x.stress(7, 11);
        Checks.due("and year 7", x.penalties(), 170);
        x.tell(4, 7, 11, 30);
        Checks.due("what is above is no one's else", x.penalties(), 146);
        x.tell(0, 0, 0, 4);
        Checks.due("less output", x.penalties(), 142);
    }

    private static void largestPenalty() {
        CapacityRound x = new CapacityRound();
        x.setDemand(1000, 1001, 1000);
        for (int year = 4; year < 8; year++) {
            x.offer(0, 300, 100, 999, 4);
            x.offer(0, 300, 100, 999, 4);
            x.offer(0, 300, 100, 999, 4);
            x.run(year);
        }
        for (int hour = 0; hour < 12; hour++) {
            x.stress(7, hour);
        }
        x.setPenalty(1000, 200);
        Checks.due("bought(7)", x.bought(7), 900);
        Checks.due("lack(0, 7)", x.lack(0, 7), 10800);
        Checks.due("penalty(0, 7)", x.penalty(0, 7), 2L * 900 * 999);
        Checks.due("penalties()", x.penalties(), 2L * 900 * 999);
    }

    private static void wrongIndexes() {
        CapacityRound x = new CapacityRound();
        int[][] cells = {
            {-1, 0, 0}, {5, 0, 0}, {0, -1, 0}, {0, 8, 0}, {0, 0, -1}, {0, 0, 12},
            {LOW, 0, 0}, {HIGH, 0, 0}, {0, LOW, 0}, {0, HIGH, 0}, {0, 0, LOW}, {0, 0, HIGH},
        };
        for (int[] c : cells) {
            String where = "(" + c[0] + ", " + c[1] + ", " + c[2] + ")";
            Checks.dueThrow("tell at " + where, Checks.INDEX, () -> x.tell(c[0], c[1], c[2], 1));
            Checks.dueThrow("tell of -1 at " + where, Checks.INDEX, () -> x.tell(c[0], c[1], c[2], -1));
            if (c[0] == 0) {
                Checks.dueThrow("stress at " + where, Checks.INDEX, () -> x.stress(c[1], c[2]));
            }
            if (c[2] == 0) {
                Checks.dueThrow("lack at " + where, Checks.INDEX, () -> x.lack(c[0], c[1]));
                Checks.dueThrow("penalty at " + where, Checks.INDEX, () -> x.penalty(c[0], c[1]));
            }
        }
        Checks.dueThrow("lack(4, 7)", Checks.NOTHING, () -> x.lack(4, 7));
        Checks.dueThrow("penalty(4, 7)", Checks.NOTHING, () -> x.penalty(4, 7));
        for (int year = 0; year < 8; year++) {
            for (int hour = 0; hour < 12; hour++) {
                Checks.due("stress behind calls that threw", x.stress(year, hour), true);
            }
        }
    }

    private static void wrongOutputs() {
        CapacityRound x = new CapacityRound();
        x.tell(0, 0, 0, 9);
        int[] wrong = {-1, 5001, LOW, HIGH};
        for (int output : wrong) {
            Checks.dueThrow("tell of " + output, Checks.ARGUMENT, () -> x.tell(0, 0, 0, output));
        }
        Checks.due("tell behind calls that threw", x.tell(0, 0, 0, 5000), 9);
    }

    private static void wrongPenalties() {
        CapacityRound x = market(0, 0, 50, 20);
        x.stress(0, 0);
        x.setPenalty(7, 150);
        int[][] wrong = {{-1, 0}, {1001, 0}, {0, -1}, {0, 201}, {LOW, 0}, {HIGH, 0}, {0, LOW}, {0, HIGH}};
        for (int[] a : wrong) {
            Checks.dueThrow("setPenalty(" + a[0] + ", " + a[1] + ")", Checks.ARGUMENT,
                    () -> x.setPenalty(a[0], a[1]));
            Checks.due("penalty behind it", x.penalty(0, 0), 350);
        }
        Checks.dueThrow("setPenalty(0, 0)", Checks.NOTHING, () -> x.setPenalty(0, 0));
        Checks.dueThrow("setPenalty(1000, 200)", Checks.NOTHING, () -> x.setPenalty(1000, 200));
    }
}
