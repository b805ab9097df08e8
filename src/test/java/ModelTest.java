/** Promises 1 to 22 in long runs of calls: every answer against the model's, 512 calls to an object. */
public final class ModelTest {
    private static final int RUNS = 400;
    private static final int CALLS = 512;

    /** How often each call is drawn, as many times as it stands here. */
    private static final String[] DRAW = {
        "setDemand", "value", "worth", "offers", "supply", "clearing", "clearing", "clearingByClock",
        "clearingByClock", "wouldTake", "wouldTake", "run", "run", "bought", "income", "obligation", "trades",
        "stress", "stress", "setPenalty", "lack", "lack", "penalty", "penalty", "penalties",
        "offer", "offer", "offer", "offer", "offer", "offer", "offer", "offer",
        "trade", "trade", "trade", "trade", "tell", "tell", "tell",
    };

    private static long state = 20261119;

    public static void main(String[] args) {
        for (int run = 0; run < RUNS; run++) {
            oneRun(run);
        }
        Checks.finish();
    }

    private static void oneRun(int run) {
        CapacityRound x = new CapacityRound();
        Model model = new Model();
        // a run of one kind keeps to few years, so that what it buys piles up; a run of another asks wrongly often
        int years = 1 + run % 8;
        int wrongIn = run % 3 == 0 ? 6 : 40;
        for (int call = 0; call < CALLS; call++) {
            String name = DRAW[below(DRAW.length)];
            int[] a = arguments(name, years);
            if (a.length > 0 && below(wrongIn) == 0) {
                a[below(a.length)] = strange();
            }
            compare("run " + run + ", call " + call + ": ", x, model, name, a);
        }
    }

    private static void compare(String where, CapacityRound x, Model model, String name, int[] a) {
        Step step = Step.of(name, a);
        String what = where + step.text();
        String refusal = model.refusal(name, a);
        long[] got = new long[1];
        Checks.dueThrow(what, refusal, () -> got[0] = step.on(x));
        if (refusal.equals(Checks.NOTHING)) {
            Checks.due(what, got[0], model.answer(name, a));
        }
    }

    private static int below(int bound) {
        state = state * 6364136223846793005L + 1442695040888963407L;
        return (int) Long.remainderUnsigned(state >>> 33, bound);
    }

    private static int between(int least, int most) {
        return least + below(most - least + 1);
    }

    private static int strange() {
        int[] all = {-1, 0, 1, 4, 5, 7, 8, 11, 12, 100, 101, 200, 201, 300, 301, 1000, 1001, 1002, 5000, 5001,
            10000, 10001, Integer.MAX_VALUE, Integer.MIN_VALUE};
        return all[below(all.length)];
    }

    private static int[] arguments(String name, int years) {
        int party = below(5);
        int year = years == 8 ? below(8) : 8 - years + below(years);
        int hour = below(12);
        switch (name) {
            case "setDemand":
                int lower = between(0, below(4) == 0 ? 1000 : 300);
                return new int[] {lower, between(lower + 1, Math.min(1001, lower + 1 + below(400))),
                    between(1, below(3) == 0 ? 1000 : 60)};
            case "value":
                return new int[] {between(1, 400)};
            case "worth":
                return new int[] {between(0, below(8) == 0 ? 10000 : 400)};
            case "offer":
                return new int[] {party, between(1, below(4) == 0 ? 300 : 40), below(3) == 0 ? between(0, 100) : 100,
                    between(0, below(6) == 0 ? 1000 : 30), between(1, 4)};
            case "supply":
                return new int[] {between(0, below(4) == 0 ? 1000 : 40)};
            case "clearing":
            case "clearingByClock":
            case "run":
            case "bought":
                return new int[] {year};
            case "wouldTake":
                return new int[] {below(6), year};
            case "income":
            case "lack":
            case "penalty":
                return new int[] {party, year};
            case "obligation":
                return new int[] {party, year, hour};
            case "trade":
                return new int[] {party, (party + 1 + below(4)) % 5, year, hour, between(hour, 11),
                    between(1, below(3) == 0 ? 200 : 20)};
            case "stress":
                return new int[] {year, hour};
            case "tell":
                return new int[] {party, year, hour, between(0, below(5) == 0 ? 5000 : 60)};
            case "setPenalty":
                return new int[] {between(0, 1000), between(0, 200)};
            default:
                return new int[0];
        }
    }
}
