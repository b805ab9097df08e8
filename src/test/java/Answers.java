import java.util.ArrayList;
import java.util.List;

/** Everything that can be asked of a market, and what becomes visible only when it is called on. */
final class Answers {
    // no object is asked more often than the document tells what it answers
    private static final List<List<Step>> ROUNDS = rounds();

    private Answers() {
    }

    /** Each round is asked of an object of its own, and begins where the state ends. */
    static int rounds(List<Step> state) {
        int most = 0;
        for (List<Step> round : ROUNDS) {
            most = Math.max(most, state.size() + 1 + round.size());
        }
        Checks.due("calls of one object stay within 512", most <= 512, true);
        return ROUNDS.size();
    }

    static long[] of(CapacityRound x, int round) {
        List<Step> steps = ROUNDS.get(round);
        long[] answers = new long[steps.size()];
        for (int i = 0; i < answers.length; i++) {
            answers[i] = answerOf(x, steps.get(i));
        }
        return answers;
    }

    static String text(int round, int step) {
        return ROUNDS.get(round).get(step).text();
    }

    private static long answerOf(CapacityRound x, Step step) {
        try {
            return step.on(x);
        } catch (IndexOutOfBoundsException e) {
            return Long.MIN_VALUE;
        } catch (IllegalArgumentException e) {
            return Long.MIN_VALUE + 1;
        } catch (IllegalStateException e) {
            return Long.MIN_VALUE + 2;
        }
    }

    private static List<List<Step>> rounds() {
        List<List<Step>> all = new ArrayList<>();
        for (int party = 0; party < 5; party++) {
            all.add(accountOf(party));
        }
        for (int from = 0; from <= 1000; from += 143) {
            all.add(demandAndSupply(from, from + 142));
        }
        all.add(auctions());
        for (int year = 0; year < 8; year++) {
            all.add(auctionNow(year));
            all.add(auctionWithOneMore(year));
        }
        return all;
    }

    private static List<Step> accountOf(int party) {
        List<Step> steps = new ArrayList<>();
        for (int year = 0; year < 8; year++) {
            steps.add(Step.of("income", party, year));
            steps.add(Step.of("lack", party, year));
            steps.add(Step.of("penalty", party, year));
            for (int hour = 0; hour < 12; hour++) {
                steps.add(Step.of("obligation", party, year, hour));
            }
        }
        for (int year = 0; year < 8; year++) {
            for (int hour = 0; hour < 12; hour++) {
                steps.add(Step.of("tell", party, year, hour, 1));
            }
        }
        return steps;
    }

    private static List<Step> demandAndSupply(int from, int to) {
        List<Step> steps = new ArrayList<>();
        for (int number = from; number <= to; number++) {
            steps.add(Step.of("value", number + 1));
            steps.add(Step.of("worth", number));
            steps.add(Step.of("supply", number));
        }
        return steps;
    }

    private static List<Step> auctions() {
        List<Step> steps = new ArrayList<>();
        steps.add(Step.of("offers"));
        steps.add(Step.of("trades"));
        steps.add(Step.of("penalties"));
        for (int year = 0; year < 8; year++) {
            steps.add(Step.of("clearing", year));
            steps.add(Step.of("clearingByClock", year));
            steps.add(Step.of("bought", year));
            for (int offer = 0; offer <= 12; offer++) {
                steps.add(Step.of("wouldTake", offer, year));
            }
            for (int hour = 0; hour < 12; hour++) {
                steps.add(Step.of("stress", year, hour));
            }
        }
        return steps;
    }

    /** The parties and terms of what waits are seen by what an auction buys. */
    private static List<Step> auctionNow(int year) {
        List<Step> steps = new ArrayList<>();
        steps.add(Step.of("setDemand", 1000, 1001, 1000));
        steps.add(Step.of("run", year));
        steps.add(Step.of("offers"));
        for (int of = 0; of < 8; of++) {
            steps.add(Step.of("bought", of));
            for (int party = 0; party < 5; party++) {
                steps.add(Step.of("income", party, of));
                steps.add(Step.of("obligation", party, of, 6));
            }
        }
        return steps;
    }

    private static List<Step> auctionWithOneMore(int year) {
        List<Step> steps = new ArrayList<>();
        steps.add(Step.of("offer", 3, 8, 100, 2, 4));
        steps.add(Step.of("clearing", year));
        steps.addAll(auctionNow(year));
        return steps;
    }
}
