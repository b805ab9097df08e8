import java.util.ArrayList;
import java.util.List;

/** The range of one argument of one call, as the document tells it, with what is thrown outside of it. */
record Range(String thrown, Step base, int place, int least, int most) {

    /** All ranges of the document; the bases are calls that Markets.wide() takes. */
    static List<Range> all() {
        List<Range> all = new ArrayList<>();
        demandAndOffers(all);
        auctions(all);
        obligationsAndTrades(all);
        stressAndPenalties(all);
        return all;
    }

    private static void demandAndOffers(List<Range> all) {
        all.add(new Range(Checks.ARGUMENT, Step.of("setDemand", 5, 1001, 50), 0, 0, 1000));
        for (int lower : new int[] {0, 1, 500, 998, 999, 1000}) {
            all.add(new Range(Checks.ARGUMENT, Step.of("setDemand", lower, 1001, 50), 1, lower + 1, 1001));
        }
        all.add(new Range(Checks.ARGUMENT, Step.of("setDemand", 5, 1001, 50), 2, 1, 1000));
        all.add(new Range(Checks.ARGUMENT, Step.of("value", 5), 0, 1, 10000));
        all.add(new Range(Checks.ARGUMENT, Step.of("worth", 5), 0, 0, 10000));
        Step offer = Step.of("offer", 2, 10, 50, 7, 2);
        all.add(new Range(Checks.INDEX, offer, 0, 0, 4));
        all.add(new Range(Checks.ARGUMENT, offer, 1, 1, 300));
        all.add(new Range(Checks.ARGUMENT, offer, 2, 0, 100));
        all.add(new Range(Checks.ARGUMENT, offer, 3, 0, 1000));
        all.add(new Range(Checks.ARGUMENT, offer, 4, 1, 4));
        all.add(new Range(Checks.ARGUMENT, Step.of("supply", 5), 0, 0, 1000));
    }

    private static void auctions(List<Range> all) {
        for (String name : new String[] {"clearing", "clearingByClock", "run", "bought"}) {
            all.add(new Range(Checks.INDEX, Step.of(name, 3), 0, 0, 7));
        }
        all.add(new Range(Checks.INDEX, Step.of("wouldTake", 1, 3), 0, 0, 3));
        all.add(new Range(Checks.INDEX, Step.of("wouldTake", 1, 3), 1, 0, 7));
        for (String name : new String[] {"income", "lack", "penalty"}) {
            all.add(new Range(Checks.INDEX, Step.of(name, 1, 3), 0, 0, 4));
            all.add(new Range(Checks.INDEX, Step.of(name, 1, 3), 1, 0, 7));
        }
    }

    private static void obligationsAndTrades(List<Range> all) {
        all.add(new Range(Checks.INDEX, Step.of("obligation", 1, 3, 5), 0, 0, 4));
        all.add(new Range(Checks.INDEX, Step.of("obligation", 1, 3, 5), 1, 0, 7));
        all.add(new Range(Checks.INDEX, Step.of("obligation", 1, 3, 5), 2, 0, 11));
        // the party 2 stands where no step of the other party's range goes
        all.add(new Range(Checks.INDEX, Step.of("trade", 0, 2, 3, 4, 8, 10), 0, 0, 4));
        all.add(new Range(Checks.INDEX, Step.of("trade", 2, 0, 3, 4, 8, 10), 1, 0, 4));
        all.add(new Range(Checks.INDEX, Step.of("trade", 0, 2, 3, 4, 8, 10), 2, 0, 7));
        all.add(new Range(Checks.INDEX, Step.of("trade", 0, 2, 3, 4, 11, 10), 3, 0, 11));
        all.add(new Range(Checks.INDEX, Step.of("trade", 0, 2, 3, 0, 8, 10), 4, 0, 11));
        all.add(new Range(Checks.ARGUMENT, Step.of("trade", 0, 2, 3, 4, 8, 10), 5, 1, 1000));
    }

    private static void stressAndPenalties(List<Range> all) {
        all.add(new Range(Checks.INDEX, Step.of("stress", 3, 5), 0, 0, 7));
        all.add(new Range(Checks.INDEX, Step.of("stress", 3, 5), 1, 0, 11));
        all.add(new Range(Checks.INDEX, Step.of("tell", 1, 3, 5, 100), 0, 0, 4));
        all.add(new Range(Checks.INDEX, Step.of("tell", 1, 3, 5, 100), 1, 0, 7));
        all.add(new Range(Checks.INDEX, Step.of("tell", 1, 3, 5, 100), 2, 0, 11));
        all.add(new Range(Checks.ARGUMENT, Step.of("tell", 1, 3, 5, 100), 3, 0, 5000));
        all.add(new Range(Checks.ARGUMENT, Step.of("setPenalty", 30, 60), 0, 0, 1000));
        all.add(new Range(Checks.ARGUMENT, Step.of("setPenalty", 30, 60), 1, 0, 200));
    }

    /** The ends of the range and one step into it. */
    List<Step> inside() {
        List<Step> steps = new ArrayList<>();
        for (int argument : new int[] {least, least + 1, most - 1, most}) {
            if (argument >= least && argument <= most) {
                steps.add(base.with(place, argument));
            }
        }
        return steps;
    }

    /** One step out of the range to each side, and as far as an int goes. */
    List<Step> outside() {
        List<Step> steps = new ArrayList<>();
        for (int argument : new int[] {least - 1, most + 1, Integer.MIN_VALUE, Integer.MAX_VALUE}) {
            steps.add(base.with(place, argument));
        }
        return steps;
    }
}
