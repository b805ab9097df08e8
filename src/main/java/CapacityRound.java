/** A capacity market: auctions of derated capacity, trades of obligations, penalties for stress hours. */
public final class CapacityRound {
    public static final int NONE = -1;

    private static final int PARTIES = 5;
    private static final int YEARS = 8;
    private static final int HOURS = 12;
    private static final int PERCENT = 100;

    private final Demand demand;
    private final Queue queue;
    private final int[] boughtByYear;
    private final int[] incomes;
    private final int[] obligations;
    private final int[] outputs;
    private final boolean[] stressed;
    private int tradeCount;
    private int penaltyRate;
    private int penaltyCap;

    public CapacityRound() {
        demand = new Demand();
        queue = new Queue();
        boughtByYear = new int[YEARS];
        incomes = new int[PARTIES * YEARS];
        obligations = new int[PARTIES * YEARS * HOURS];
        outputs = new int[PARTIES * YEARS * HOURS];
        stressed = new boolean[YEARS * HOURS];
        tradeCount = 0;
        penaltyRate = 20;
        penaltyCap = 50;
    }

    // ---- demand and offers

    public void setDemand(int lower, int upper, int top) throws IllegalArgumentException {
        if (!isWithin(lower, 0, Demand.MOST_UNITS - 1) || !isWithin(upper, lower + 1, Demand.MOST_UNITS)
                || !isWithin(top, 1, 1000)) {
            throw new IllegalArgumentException("lower, upper or top is out of range");
        }
        demand.change(lower, upper, top);
    }

    public int value(int unit) throws IllegalArgumentException {
        if (!isWithin(unit, 1, 10000)) {
            throw new IllegalArgumentException("unit is out of range");
        }
        return demand.valueOf(unit);
    }

    public int worth(int amount) throws IllegalArgumentException {
        if (!isWithin(amount, 0, 10000)) {
            throw new IllegalArgumentException("amount is out of range");
        }
        return demand.worthOf(amount);
    }

    public int offer(int party, int capacity, int derating, int exit, int term)
            throws IndexOutOfBoundsException, IllegalArgumentException, IllegalStateException {
        if (!isParty(party)) {
            throw new IndexOutOfBoundsException("no such party");
        }
        if (!isWithin(capacity, 1, 300) || !isWithin(derating, 0, PERCENT) || !isWithin(exit, 0, 1000)
                || !isWithin(term, 1, 4)) {
            throw new IllegalArgumentException("capacity, derating, exit or term is out of range");
        }
        if (queue.isFull()) {
            throw new IllegalStateException("no room for another offer");
        }
        return queue.add(party, capacity * derating / PERCENT, exit, term);
    }

    public int offers() {
        return queue.count;
    }

    public int supply(int price) throws IllegalArgumentException {
        if (!isWithin(price, 0, 1000)) {
            throw new IllegalArgumentException("price is out of range");
        }
        return queue.amountUpTo(price);
    }

    // ---- auctions

    public int clearing(int year) throws IndexOutOfBoundsException {
        if (!isYear(year)) {
            throw new IndexOutOfBoundsException("no such year");
        }
        return queue.priceOfFirst(queue.bestFirst(demand, boughtByYear[year]));
    }

    public int clearingByClock(int year) throws IndexOutOfBoundsException {
        if (!isYear(year)) {
            throw new IndexOutOfBoundsException("no such year");
        }
        return queue.priceByClock(demand, boughtByYear[year]);
    }

    public boolean wouldTake(int offer, int year) throws IndexOutOfBoundsException {
        if (!queue.has(offer) || !isYear(year)) {
            throw new IndexOutOfBoundsException("no such offer or year");
        }
        return queue.isAmongFirst(offer, queue.bestFirst(demand, boughtByYear[year]));
    }

    public int run(int year) throws IndexOutOfBoundsException, IllegalStateException {
        if (!isYear(year)) {
            throw new IndexOutOfBoundsException("no such year");
        }
        if (queue.count == 0) {
            throw new IllegalStateException("no offers wait");
        }
        int taken = queue.bestFirst(demand, boughtByYear[year]);
        int price = queue.priceOfFirst(taken);
        for (int place = 0; place < taken; place++) {
            take(queue.order[place], year, price);
        }
        queue.clear();
        return taken;
    }

    public int bought(int year) throws IndexOutOfBoundsException {
        if (!isYear(year)) {
            throw new IndexOutOfBoundsException("no such year");
        }
        return boughtByYear[year];
    }

    public int income(int party, int year) throws IndexOutOfBoundsException {
        if (!isParty(party) || !isYear(year)) {
            throw new IndexOutOfBoundsException("no such party or year");
        }
        return incomes[yearCell(party, year)];
    }

    // ---- obligations and trades

    public int obligation(int party, int year, int hour) throws IndexOutOfBoundsException {
        if (!isParty(party) || !isYear(year) || !isHour(hour)) {
            throw new IndexOutOfBoundsException("no such party, year or hour");
        }
        return obligations[hourCell(party, year, hour)];
    }

    public int trade(int party, int other, int year, int from, int to, int amount)
            throws IndexOutOfBoundsException, IllegalArgumentException, IllegalStateException {
        if (!isParty(party) || !isParty(other) || !isYear(year) || !isHour(from) || !isHour(to)) {
            throw new IndexOutOfBoundsException("no such party, year or hour");
        }
        if (party == other || to < from || !isWithin(amount, 1, 1000)) {
            throw new IllegalArgumentException("the same party, no hours, or amount is out of range");
        }
        int least = leastObligation(party, year, from, to);
        if (least < amount) {
            throw new IllegalStateException("the obligation is less than the amount");
        }
        for (int hour = from; hour <= to; hour++) {
            obligations[hourCell(party, year, hour)] -= amount;
            obligations[hourCell(other, year, hour)] += amount;
        }
        tradeCount++;
        return least - amount;
    }

    public int trades() {
        return tradeCount;
    }

    // ---- stress and penalties

    public boolean stress(int year, int hour) throws IndexOutOfBoundsException {
        if (!isYear(year) || !isHour(hour)) {
            throw new IndexOutOfBoundsException("no such year or hour");
        }
        int cell = year * HOURS + hour;
        stressed[cell] = !stressed[cell];
        return stressed[cell];
    }

    public int tell(int party, int year, int hour, int output)
            throws IndexOutOfBoundsException, IllegalArgumentException {
        if (!isParty(party) || !isYear(year) || !isHour(hour)) {
            throw new IndexOutOfBoundsException("no such party, year or hour");
        }
        if (!isWithin(output, 0, 5000)) {
            throw new IllegalArgumentException("output is out of range");
        }
        int cell = hourCell(party, year, hour);
        int before = outputs[cell];
        outputs[cell] = output;
        return before;
    }

    public void setPenalty(int rate, int cap) throws IllegalArgumentException {
        if (!isWithin(rate, 0, 1000) || !isWithin(cap, 0, 200)) {
            throw new IllegalArgumentException("rate or cap is out of range");
        }
        penaltyRate = rate;
        penaltyCap = cap;
    }

    public int lack(int party, int year) throws IndexOutOfBoundsException {
        if (!isParty(party) || !isYear(year)) {
            throw new IndexOutOfBoundsException("no such party or year");
        }
        return lackOf(party, year);
    }

    public int penalty(int party, int year) throws IndexOutOfBoundsException {
        if (!isParty(party) || !isYear(year)) {
            throw new IndexOutOfBoundsException("no such party or year");
        }
        return penaltyOf(party, year);
    }

    public long penalties() {
        long sum = 0;
        for (int party = 0; party < PARTIES; party++) {
            for (int year = 0; year < YEARS; year++) {
                sum += penaltyOf(party, year);
            }
        }
        return sum;
    }

    // ---- what the calls share; parties, years and hours are in range from here on

    private static boolean isWithin(int number, int least, int most) {
        return number >= least && number <= most;
    }

    private static boolean isParty(int party) {
        return isWithin(party, 0, PARTIES - 1);
    }

    private static boolean isYear(int year) {
        return isWithin(year, 0, YEARS - 1);
    }

    private static boolean isHour(int hour) {
        return isWithin(hour, 0, HOURS - 1);
    }

    private static int yearCell(int party, int year) {
        return party * YEARS + year;
    }

    private static int hourCell(int party, int year, int hour) {
        return yearCell(party, year) * HOURS + hour;
    }

    private void take(int offer, int firstYear, int price) {
        int party = queue.parties[offer];
        int amount = queue.amounts[offer];
        int endYear = Math.min(firstYear + queue.terms[offer], YEARS);
        for (int year = firstYear; year < endYear; year++) {
            boughtByYear[year] += amount;
            incomes[yearCell(party, year)] += amount * price;
            for (int hour = 0; hour < HOURS; hour++) {
                obligations[hourCell(party, year, hour)] += amount;
            }
        }
    }

    private int leastObligation(int party, int year, int from, int to) {
        int least = obligations[hourCell(party, year, from)];
        for (int hour = from + 1; hour <= to; hour++) {
            least = Math.min(least, obligations[hourCell(party, year, hour)]);
        }
        return least;
    }

    private int lackOf(int party, int year) {
        int sum = 0;
        for (int hour = 0; hour < HOURS; hour++) {
            if (stressed[year * HOURS + hour]) {
                int cell = hourCell(party, year, hour);
                sum += obligations[cell] - outputs[cell];
            }
        }
        return sum;
    }

    private int penaltyOf(int party, int year) {
        // long, because an income times a cap comes near the end of int
        long uncapped = (long) lackOf(party, year) * penaltyRate;
        long most = (long) incomes[yearCell(party, year)] * penaltyCap / PERCENT;
        return (int) Math.max(0, Math.min(uncapped, most));
    }

    /** The sloping demand, with the worth of every amount summed up once for each change. */
    private static final class Demand {
        /** No unit behind this one has a value, whatever the demand is. */
        static final int MOST_UNITS = 1001;

        private final int[] worths;
        private int lowerAmount;
        private int upperAmount;
        private int topPrice;

        Demand() {
            worths = new int[MOST_UNITS + 1];
            change(100, 200, 50);
        }

        void change(int lower, int upper, int top) {
            lowerAmount = lower;
            upperAmount = upper;
            topPrice = top;
            for (int unit = 1; unit <= MOST_UNITS; unit++) {
                worths[unit] = worths[unit - 1] + valueOf(unit);
            }
        }

        int valueOf(int unit) {
            if (unit <= lowerAmount) {
                return topPrice;
            }
            if (unit > upperAmount) {
                return 0;
            }
            // the unit stands above the lower and not above the upper amount: the divisor is 1 at least
            return topPrice * (upperAmount - unit) / (upperAmount - lowerAmount);
        }

        int worthOf(int amount) {
            return worths[Math.max(0, Math.min(amount, MOST_UNITS))];
        }
    }

    /** The offers that wait, by their numbers; order has these numbers by exit price. */
    private static final class Queue {
        static final int MOST = 12;

        final int[] parties;
        final int[] amounts;
        final int[] terms;
        final int[] order;
        int count;
        private final int[] exits;
        private final boolean[] in;

        Queue() {
            parties = new int[MOST];
            amounts = new int[MOST];
            terms = new int[MOST];
            order = new int[MOST];
            exits = new int[MOST];
            in = new boolean[MOST];
            count = 0;
        }

        boolean isFull() {
            return count >= MOST;
        }

        boolean has(int offer) {
            return offer >= 0 && offer < count;
        }

        void clear() {
            count = 0;
        }

        /** Adds an offer where there is room for it, and returns its number. */
        int add(int party, int amount, int exit, int term) {
            int number = count;
            int place = number;
            // the new number is the greatest: it goes behind all with the same exit price
            while (place > 0 && exits[order[place - 1]] > exit) {
                order[place] = order[place - 1];
                place--;
            }
            order[place] = number;
            parties[number] = party;
            amounts[number] = amount;
            exits[number] = exit;
            terms[number] = term;
            count++;
            return number;
        }

        int amountUpTo(int price) {
            int sum = 0;
            for (int offer = 0; offer < count; offer++) {
                if (exits[offer] <= price) {
                    sum += amounts[offer];
                }
            }
            return sum;
        }

        /** Returns how many of the first offers in order have the greatest welfare, the least of several. */
        int bestFirst(Demand demand, int already) {
            int amount = already;
            int cost = 0;
            int best = demand.worthOf(amount);
            int taken = 0;
            for (int place = 0; place < count; place++) {
                int offer = order[place];
                amount += amounts[offer];
                cost += amounts[offer] * exits[offer];
                int welfare = demand.worthOf(amount) - cost;
                if (welfare > best) {
                    best = welfare;
                    taken = place + 1;
                }
            }
            return taken;
        }

        int priceOfFirst(int taken) {
            return taken < 1 || taken > count ? 0 : exits[order[taken - 1]];
        }

        boolean isAmongFirst(int offer, int taken) {
            for (int place = 0; place < taken && place < count; place++) {
                if (order[place] == offer) {
                    return true;
                }
            }
            return false;
        }

        /** Finds the clearing price without the order, by letting the offers leave one by one. */
        int priceByClock(Demand demand, int already) {
            int amount = already;
            int cost = 0;
            for (int offer = 0; offer < count; offer++) {
                in[offer] = true;
                amount += amounts[offer];
                cost += amounts[offer] * exits[offer];
            }
            int best = demand.worthOf(amount) - cost;
            int leaver = dearestIn();
            int price = exitOf(leaver);
            // nothing changes between two leavings: the clock falls from one exit price to the next
            for (int left = count; left > 0 && leaver != NONE; left--) {
                in[leaver] = false;
                amount -= amounts[leaver];
                cost -= amounts[leaver] * exits[leaver];
                leaver = dearestIn();
                int welfare = demand.worthOf(amount) - cost;
                if (welfare >= best) {
                    best = welfare;
                    price = exitOf(leaver);
                }
            }
            return price;
        }

        private int dearestIn() {
            int dearest = NONE;
            for (int offer = 0; offer < count; offer++) {
                if (in[offer] && (dearest == NONE || exits[offer] >= exits[dearest])) {
                    dearest = offer;
                }
            }
            return dearest;
        }

        private int exitOf(int offer) {
            return offer == NONE ? 0 : exits[offer];
        }
    }
}
