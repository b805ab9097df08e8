import java.util.ArrayList;
import java.util.Arrays;
import java.util.List;

/**
 * "If several exceptions apply to a call, the one that its throws clause names first is thrown; a call that throws
 * changes nothing": for each exception of each call, and for each two of them.
 */
public final class RefusalTest {
    public static void main(String[] args) {
        outOfRangeChangesNothing();
        argumentsThatDoNotFitChangeNothing();
        statesThatRefuseChangeNothing();
        twoOutOfRange();
        outOfRangeWhereTheStateRefuses();
        theLooksOfThisTestSeeChanges();
        Checks.finish();
    }

    /** All that can be asked behind the refused call, against the same without it. */
    private static void changesNothing(String where, List<Step> state, Step refused, String thrown) {
        for (int round = 0; round < Answers.rounds(state); round++) {
            CapacityRound x = Markets.after(state);
            Checks.dueThrow(where + refused.text(), thrown, () -> refused.on(x));
            long[] got = Answers.of(x, round);
            long[] want = Answers.of(Markets.after(state), round);
            int at = Arrays.mismatch(got, want);
            Checks.dueText(where + refused.text() + " changes",
                    at < 0 ? Checks.NOTHING : Answers.text(round, at), Checks.NOTHING);
        }
    }

    private static void outOfRangeChangesNothing() {
        for (Range range : Range.all()) {
            for (Step step : range.outside()) {
                changesNothing("busy: ", Markets.busy(), step, range.thrown());
            }
        }
        for (int offer : new int[] {-1, 0, 1}) {
            changesNothing("idle: ", Markets.idle(), Step.of("wouldTake", offer, 0), Checks.INDEX);
            changesNothing("fresh: ", Markets.fresh(), Step.of("wouldTake", offer, 0), Checks.INDEX);
        }
        changesNothing("full: ", Markets.full(), Step.of("wouldTake", 12, 0), Checks.INDEX);
        changesNothing("busy: ", Markets.busy(), Step.of("wouldTake", 4, 8), Checks.INDEX);
    }

    private static void argumentsThatDoNotFitChangeNothing() {
        Step[] steps = {
            Step.of("setDemand", 90, 90, 47), Step.of("setDemand", 1000, 1000, 47), Step.of("setDemand", 210, 90, 47),
            Step.of("trade", 0, 0, 2, 0, 0, 5), Step.of("trade", 1, 1, 5, 0, 11, 1),
            Step.of("trade", 0, 1, 2, 1, 0, 5), Step.of("trade", 0, 1, 2, 11, 10, 5),
            Step.of("trade", 0, 1, 2, 11, 0, 5),
        };
        for (Step step : steps) {
            changesNothing("busy: ", Markets.busy(), step, Checks.ARGUMENT);
        }
    }

    private static void statesThatRefuseChangeNothing() {
        changesNothing("full: ", Markets.full(), Step.of("offer", 2, 10, 100, 3, 1), Checks.STATE);
        changesNothing("full: ", Markets.full(), Step.of("offer", 0, 1, 0, 1000, 4), Checks.STATE);
        for (int year = 0; year < 8; year++) {
            changesNothing("idle: ", Markets.idle(), Step.of("run", year), Checks.STATE);
            changesNothing("fresh: ", Markets.fresh(), Step.of("run", year), Checks.STATE);
        }
        // party 0 has 90 in year 2, but 60 in the hours 1 to 4
        int[][] trades = {
            {0, 1, 2, 0, 0, 91}, {0, 1, 2, 1, 4, 61}, {0, 3, 2, 0, 1, 61}, {0, 1, 2, 4, 11, 61},
            {0, 2, 2, 0, 11, 61}, {4, 0, 2, 0, 11, 1}, {0, 1, 1, 0, 0, 1}, {0, 1, 4, 0, 0, 1}, {0, 1, 2, 0, 11, 1000},
        };
        for (int[] a : trades) {
            changesNothing("busy: ", Markets.busy(), Step.of("trade", a), Checks.STATE);
        }
        changesNothing("fresh: ", Markets.fresh(), Step.of("trade", 0, 1, 0, 0, 0, 1), Checks.STATE);
    }

    private static String firstOf(Range one, Range other) {
        boolean index = one.thrown().equals(Checks.INDEX) || other.thrown().equals(Checks.INDEX);
        return index ? Checks.INDEX : Checks.ARGUMENT;
    }

    private static void twoOutOfRange() {
        List<Range> all = Range.all();
        for (Range one : all) {
            for (Range other : all) {
                if (one.base().name.equals(other.base().name) && one.place() < other.place()) {
                    Step step = one.base().with(one.place(), one.least() - 1).with(other.place(), other.most() + 1);
                    changesNothing("two wrong: ", Markets.busy(), step, firstOf(one, other));
                    Step turned = one.base().with(one.place(), one.most() + 1).with(other.place(), other.least() - 1);
                    changesNothing("two wrong: ", Markets.busy(), turned, firstOf(one, other));
                }
            }
        }
        changesNothing("no party, both the same: ", Markets.busy(), Step.of("trade", 5, 5, 2, 0, 0, 5), Checks.INDEX);
        changesNothing("no party, both the same: ", Markets.busy(), Step.of("trade", -1, -1, 2, 0, 0, 5),
                Checks.INDEX);
        changesNothing("no hour, to before from: ", Markets.busy(), Step.of("trade", 0, 1, 2, 12, 11, 5),
                Checks.INDEX);
        changesNothing("no year, both the same: ", Markets.busy(), Step.of("trade", 0, 0, 8, 0, 0, 5), Checks.INDEX);
    }

    /** The calls that have an IllegalStateException, where it applies too. */
    private static void outOfRangeWhereTheStateRefuses() {
        for (Range range : Range.all()) {
            for (Step step : range.outside()) {
                switch (step.name) {
                    case "offer":
                        changesNothing("full: ", Markets.full(), step, range.thrown());
                        break;
                    case "run":
                        changesNothing("idle: ", Markets.idle(), step, range.thrown());
                        changesNothing("fresh: ", Markets.fresh(), step, range.thrown());
                        break;
                    case "trade":
                        changesNothing("fresh: ", Markets.fresh(), step, range.thrown());
                        break;
                    default:
                        break;
                }
            }
        }
        changesNothing("both the same, no obligation: ", Markets.fresh(), Step.of("trade", 3, 3, 0, 0, 0, 1),
                Checks.ARGUMENT);
        changesNothing("to before from, no obligation: ", Markets.fresh(), Step.of("trade", 3, 2, 0, 1, 0, 1),
                Checks.ARGUMENT);
        changesNothing("amount 1001 of 90: ", Markets.busy(), Step.of("trade", 0, 1, 2, 0, 0, 1001),
                Checks.ARGUMENT);
    }

    /** A call that does change something has to be seen, or the looks above would prove nothing. */
    private static void theLooksOfThisTestSeeChanges() {
        Step[] changing = {
            Step.of("setDemand", 91, 210, 47), Step.of("setDemand", 90, 211, 47), Step.of("setDemand", 90, 210, 48),
            Step.of("offer", 0, 1, 100, 1000, 1), Step.of("offer", 0, 1, 0, 1000, 1), Step.of("run", 0),
            Step.of("run", 7), Step.of("trade", 0, 1, 2, 0, 0, 1), Step.of("trade", 1, 0, 5, 11, 11, 1),
            Step.of("stress", 0, 0), Step.of("stress", 2, 3), Step.of("stress", 7, 0), Step.of("tell", 0, 2, 3, 21),
            Step.of("tell", 4, 0, 0, 1), Step.of("setPenalty", 32, 70), Step.of("setPenalty", 33, 71),
        };
        for (Step step : changing) {
            boolean seen = false;
            List<Step> state = Markets.busy();
            List<Step> behind = new ArrayList<>(state);
            behind.add(step);
            for (int round = 0; round < Answers.rounds(state); round++) {
                long[] got = Answers.of(Markets.after(behind), round);
                seen |= Arrays.mismatch(got, Answers.of(Markets.after(state), round)) >= 0;
            }
            Checks.due(step.text() + " is seen", seen, true);
        }
    }
}
