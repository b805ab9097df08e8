import java.util.Arrays;

/** A call by its name, so that tests can be written as tables of calls. */
final class Step {
    final String name;
    final int[] args;

    private Step(String name, int[] args) {
        this.name = name;
        this.args = args;
    }

    static Step of(String name, int... args) {
        return new Step(name, args.clone());
    }

    /** The same call with another argument at one place. */
    Step with(int place, int argument) {
        int[] changed = args.clone();
        changed[place] = argument;
        return new Step(name, changed);
    }

    String text() {
        String inside = Arrays.toString(args);
        return name + "(" + inside.substring(1, inside.length() - 1) + ")";
    }

    /** What the call answers: a boolean counts 1 or 0, no answer counts 0. */
    long on(CapacityRound x) {
        int[] a = args;
        switch (name) {
            case "setDemand":
                x.setDemand(a[0], a[1], a[2]);
                return 0;
            case "value":
                return x.value(a[0]);
            case "worth":
                return x.worth(a[0]);
            case "offer":
                return x.offer(a[0], a[1], a[2], a[3], a[4]);
            case "offers":
                return x.offers();
            case "supply":
                return x.supply(a[0]);
            case "clearing":
                return x.clearing(a[0]);
            case "clearingByClock":
                return x.clearingByClock(a[0]);
            case "wouldTake":
                return x.wouldTake(a[0], a[1]) ? 1 : 0;
            case "run":
                return x.run(a[0]);
            case "bought":
                return x.bought(a[0]);
            case "income":
                return x.income(a[0], a[1]);
            case "obligation":
                return x.obligation(a[0], a[1], a[2]);
            case "trade":
                return x.trade(a[0], a[1], a[2], a[3], a[4], a[5]);
            case "trades":
                return x.trades();
            case "stress":
                return x.stress(a[0], a[1]) ? 1 : 0;
            case "tell":
                return x.tell(a[0], a[1], a[2], a[3]);
            case "setPenalty":
                x.setPenalty(a[0], a[1]);
                return 0;
            case "lack":
                return x.lack(a[0], a[1]);
            case "penalty":
                return x.penalty(a[0], a[1]);
            case "penalties":
                return x.penalties();
            default:
                throw new UnsupportedOperationException(name);
        }
    }
}
