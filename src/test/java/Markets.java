import java.util.ArrayList;
import java.util.List;

/** States of the market that tests begin with, as the calls that lead to them. */
final class Markets {
    private Markets() {
    }

    static CapacityRound after(List<Step> steps) {
        CapacityRound x = new CapacityRound();
        for (Step step : steps) {
            step.on(x);
        }
        return x;
    }

    /** Nothing was called. */
    static List<Step> fresh() {
        return List.of();
    }

    /** Four offers wait; in every year party 0 has 1200 and each other party 20, so that any of them can trade. */
    static List<Step> wide() {
        List<Step> steps = new ArrayList<>();
        steps.add(Step.of("setDemand", 1000, 1001, 1000));
        for (int year = 0; year < 8; year += 4) {
            for (int party = 1; party < 5; party++) {
                steps.add(Step.of("offer", party, 20, 100, 7, 4));
            }
            for (int part = 0; part < 4; part++) {
                steps.add(Step.of("offer", 0, 300, 100, 7, 4));
            }
            steps.add(Step.of("run", year));
        }
        for (int offer = 0; offer < 4; offer++) {
            steps.add(Step.of("offer", offer, 10, 100, 5, 1));
        }
        return steps;
    }

    /** Something of everything, so that no answer is the one of a new object; four offers wait. */
    static List<Step> busy() {
        List<Step> steps = new ArrayList<>();
        steps.add(Step.of("offer", 0, 100, 90, 10, 2));
        steps.add(Step.of("offer", 1, 50, 100, 20, 4));
        steps.add(Step.of("run", 2));
        steps.add(Step.of("trade", 0, 3, 2, 1, 4, 30));
        steps.add(Step.of("trade", 1, 2, 5, 0, 11, 5));
        steps.add(Step.of("stress", 2, 3));
        steps.add(Step.of("stress", 5, 0));
        steps.add(Step.of("stress", 7, 11));
        steps.add(Step.of("tell", 0, 2, 3, 20));
        steps.add(Step.of("tell", 1, 5, 0, 44));
        steps.add(Step.of("tell", 4, 7, 11, 43));
        steps.add(Step.of("setPenalty", 33, 70));
        steps.add(Step.of("setDemand", 90, 210, 47));
        steps.add(Step.of("offer", 2, 40, 50, 12, 3));
        steps.add(Step.of("offer", 3, 30, 100, 5, 2));
        steps.add(Step.of("offer", 0, 77, 99, 40, 1));
        steps.add(Step.of("offer", 4, 60, 100, 40, 4));
        return steps;
    }

    /** As busy, but twelve offers wait. */
    static List<Step> full() {
        List<Step> steps = busy();
        for (int offer = 4; offer < 12; offer++) {
            steps.add(Step.of("offer", offer % 5, 3 + offer, 100, 30 - offer, 1 + offer % 4));
        }
        return steps;
    }

    /** As busy, but the offers are gone. */
    static List<Step> idle() {
        List<Step> steps = busy();
        steps.add(Step.of("run", 6));
        return steps;
    }
}
