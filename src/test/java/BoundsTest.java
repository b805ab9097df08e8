import java.util.List;

/**
 * Every range that the document names, promises 2 to 21: its ends and one step into it are taken, one step out of it
 * is refused with the exception that is due.
 */
public final class BoundsTest {
    public static void main(String[] args) {
        for (Range range : Range.all()) {
            for (Step step : range.inside()) {
                isTaken(step);
            }
            for (Step step : range.outside()) {
                isRefused(step, range.thrown());
            }
        }
        hoursOfATradeFollowOneAnother();
        partiesOfATradeDiffer();
        everyPartyYearAndHourIsThere();
        Checks.finish();
    }

    /** The call answers as the model does, and leaves what the model leaves. */
    private static void isTaken(Step step) {
        List<Step> state = Markets.wide();
        CapacityRound x = Markets.after(state);
        Model model = new Model();
        for (Step before : state) {
            model.answer(before.name, before.args);
        }
        Checks.dueText("the model's word on " + step.text(), model.refusal(step.name, step.args), Checks.NOTHING);
        long[] got = new long[1];
        Checks.dueThrow(step.text(), Checks.NOTHING, () -> got[0] = step.on(x));
        Checks.due(step.text(), got[0], model.answer(step.name, step.args));
        for (int year = 0; year < 8; year++) {
            Checks.due("bought behind " + step.text(), x.bought(year), model.answer("bought", new int[] {year}));
            for (int party = 0; party < 5; party++) {
                int[] hour = {party, year, 11};
                Checks.due("obligation behind " + step.text(), x.obligation(party, year, 11),
                        model.answer("obligation", hour));
            }
        }
    }

    private static void isRefused(Step step, String thrown) {
        CapacityRound x = Markets.after(Markets.wide());
        Checks.dueThrow(step.text(), thrown, () -> step.on(x));
    }

    private static void hoursOfATradeFollowOneAnother() {
        for (int from = 0; from < 12; from++) {
            for (int to = 0; to < 12; to++) {
                Step trade = Step.of("trade", 0, 1, 3, from, to, 10);
                CapacityRound x = Markets.after(Markets.wide());
                Checks.dueThrow(trade.text(), to < from ? Checks.ARGUMENT : Checks.NOTHING, () -> trade.on(x));
            }
        }
    }

    private static void partiesOfATradeDiffer() {
        for (int party = 0; party < 5; party++) {
            for (int other = 0; other < 5; other++) {
                Step trade = Step.of("trade", party, other, 3, 2, 9, 10);
                CapacityRound x = Markets.after(Markets.wide());
                Checks.dueThrow(trade.text(), party == other ? Checks.ARGUMENT : Checks.NOTHING, () -> trade.on(x));
            }
        }
    }

    /** Not the ends alone: each party, year and hour has a place of its own. */
    private static void everyPartyYearAndHourIsThere() {
        for (int party = 0; party < 5; party++) {
            CapacityRound x = Markets.after(Markets.wide());
            int other = (party + 1) % 5;
            for (int year = 0; year < 8; year++) {
                for (int hour = 0; hour < 12; hour++) {
                    x.trade(party, other, year, hour, hour, 1 + (year + hour) % 19);
                }
            }
            int had = party == 0 ? 1200 : 20;
            for (int year = 0; year < 8; year++) {
                for (int hour = 0; hour < 12; hour++) {
                    Checks.due("obligation(" + party + ", " + year + ", " + hour + ")",
                            x.obligation(party, year, hour), had - 1 - (year + hour) % 19);
                }
            }
        }
    }
}
