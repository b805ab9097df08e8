import java.util.ArrayList;
import java.util.Comparator;
import java.util.List;

/**
 * The document told again as plainly as can be: it keeps what happened and works out every answer from that,
 * where the class keeps sums. An argument is taken as it comes; what throws is left to refusal().
 */
final class Model {
    private record Offer(int number, int party, int amount, int exit, int term) {
    }

    private record Taken(Offer offer, int year, int price) {
        boolean covers(int of) {
            return of >= year && of < year + offer.term;
        }
    }

    private record Trade(int party, int other, int year, int from, int to, int amount) {
        boolean covers(int ofYear, int hour) {
            return ofYear == year && hour >= from && hour <= to;
        }
    }

    private final List<Offer> waiting = new ArrayList<>();
    private final List<Taken> taken = new ArrayList<>();
    private final List<Trade> trades = new ArrayList<>();
    private final boolean[][] stressed = new boolean[8][12];
    private final int[][][] output = new int[5][8][12];
    private long lower = 100;
    private long upper = 200;
    private long top = 50;
    private long rate = 20;
    private long cap = 50;

    private static boolean in(int number, int least, int most) {
        return least <= number && number <= most;
    }

    private static boolean parties(int... all) {
        for (int party : all) {
            if (!in(party, 0, 4)) {
                return false;
            }
        }
        return true;
    }

    /** What the call has to throw, or Checks.NOTHING. */
    String refusal(String call, int[] a) {
        switch (call) {
            case "setDemand":
                return argument(in(a[0], 0, 1000) && in(a[1], a[0] + 1, 1001) && in(a[2], 1, 1000));
            case "value":
                return argument(in(a[0], 1, 10000));
            case "worth":
                return argument(in(a[0], 0, 10000));
            case "offer":
                if (!parties(a[0])) {
                    return Checks.INDEX;
                }
                if (!in(a[1], 1, 300) || !in(a[2], 0, 100) || !in(a[3], 0, 1000) || !in(a[4], 1, 4)) {
                    return Checks.ARGUMENT;
                }
                return waiting.size() == 12 ? Checks.STATE : Checks.NOTHING;
            case "supply":
                return argument(in(a[0], 0, 1000));
            case "clearing":
            case "clearingByClock":
            case "bought":
                return index(in(a[0], 0, 7));
            case "wouldTake":
                return index(in(a[0], 0, waiting.size() - 1) && in(a[1], 0, 7));
            case "run":
                if (!in(a[0], 0, 7)) {
                    return Checks.INDEX;
                }
                return waiting.isEmpty() ? Checks.STATE : Checks.NOTHING;
            case "income":
            case "lack":
            case "penalty":
                return index(parties(a[0]) && in(a[1], 0, 7));
            case "obligation":
                return index(parties(a[0]) && in(a[1], 0, 7) && in(a[2], 0, 11));
            case "stress":
                return index(in(a[0], 0, 7) && in(a[1], 0, 11));
            case "tell":
                if (!parties(a[0]) || !in(a[1], 0, 7) || !in(a[2], 0, 11)) {
                    return Checks.INDEX;
                }
                return argument(in(a[3], 0, 5000));
            case "setPenalty":
                return argument(in(a[0], 0, 1000) && in(a[1], 0, 200));
            case "trade":
                return tradeRefusal(a);
            default:
                return Checks.NOTHING;
        }
    }

    private String tradeRefusal(int[] a) {
        if (!parties(a[0], a[1]) || !in(a[2], 0, 7) || !in(a[3], 0, 11) || !in(a[4], 0, 11)) {
            return Checks.INDEX;
        }
        if (a[0] == a[1] || a[4] < a[3] || !in(a[5], 1, 1000)) {
            return Checks.ARGUMENT;
        }
        return least(a[0], a[2], a[3], a[4]) < a[5] ? Checks.STATE : Checks.NOTHING;
    }

    private static String argument(boolean right) {
        return right ? Checks.NOTHING : Checks.ARGUMENT;
    }

    private static String index(boolean right) {
        return right ? Checks.NOTHING : Checks.INDEX;
    }

    /** The answer of a call that is not refused; 0 of one without an answer. */
    long answer(String call, int[] a) {
        switch (call) {
            case "setDemand":
                lower = a[0];
                upper = a[1];
                top = a[2];
                return 0;
            case "value":
                return value(a[0]);
            case "worth":
                return worth(a[0]);
            case "offer":
                waiting.add(new Offer(waiting.size(), a[0], a[1] * a[2] / 100, a[3], a[4]));
                return waiting.size() - 1;
            case "offers":
                return waiting.size();
            case "supply":
                return waiting.stream().filter(o -> o.exit <= a[0]).mapToLong(Offer::amount).sum();
            case "clearing":
                return price(winners(a[0]));
            case "clearingByClock":
                return clock(a[0]);
            case "wouldTake":
                return winners(a[1]).contains(waiting.get(a[0])) ? 1 : 0;
            case "run":
                return auction(a[0]);
            case "bought":
                return bought(a[0]);
            case "income":
                return income(a[0], a[1]);
            case "obligation":
                return obligation(a[0], a[1], a[2]);
            case "trade":
                trades.add(new Trade(a[0], a[1], a[2], a[3], a[4], a[5]));
                return least(a[0], a[2], a[3], a[4]);
            case "trades":
                return trades.size();
            case "stress":
                stressed[a[0]][a[1]] = !stressed[a[0]][a[1]];
                return stressed[a[0]][a[1]] ? 1 : 0;
            case "tell":
                int before = output[a[0]][a[1]][a[2]];
                output[a[0]][a[1]][a[2]] = a[3];
                return before;
            case "setPenalty":
                rate = a[0];
                cap = a[1];
                return 0;
            case "lack":
                return lack(a[0], a[1]);
            case "penalty":
                return penalty(a[0], a[1]);
            case "penalties":
                return penalties();
            default:
                throw new IllegalArgumentException(call);
        }
    }

    private long value(long unit) {
        if (unit <= lower) {
            return top;
        }
        return unit > upper ? 0 : top * (upper - unit) / (upper - lower);
    }

    private long worth(long amount) {
        long sum = 0;
        for (long unit = 1; unit <= amount; unit++) {
            sum += value(unit);
        }
        return sum;
    }

    private long welfare(List<Offer> offers, int year) {
        long amount = bought(year);
        long cost = 0;
        for (Offer offer : offers) {
            amount += offer.amount;
            cost += (long) offer.amount * offer.exit;
        }
        return worth(amount) - cost;
    }

    private List<Offer> winners(int year) {
        List<Offer> order = new ArrayList<>(waiting);
        order.sort(Comparator.comparingInt(Offer::exit).thenComparingInt(Offer::number));
        List<Offer> best = order.subList(0, 0);
        for (int k = 1; k <= order.size(); k++) {
            if (welfare(order.subList(0, k), year) > welfare(best, year)) {
                best = order.subList(0, k);
            }
        }
        return best;
    }

    private static long price(List<Offer> winners) {
        return winners.stream().mapToLong(Offer::exit).max().orElse(0);
    }

    /** The clock as promise 9 tells it, price by price. */
    private long clock(int year) {
        List<Offer> in = new ArrayList<>(waiting);
        long best = welfare(in, year);
        long clearing = price(in);
        for (int price = 1000; price >= -1; price--) {
            for (int place = in.size() - 1; place >= 0; place--) {
                if (in.get(place).exit > price) {
                    in.remove(place);
                    long now = welfare(in, year);
                    if (now >= best) {
                        best = now;
                        clearing = price(in);
                    }
                }
            }
        }
        return clearing;
    }

    private long auction(int year) {
        List<Offer> winners = winners(year);
        int price = (int) price(winners);
        for (Offer offer : winners) {
            taken.add(new Taken(offer, year, price));
        }
        int count = winners.size();
        waiting.clear();
        return count;
    }

    private long bought(int year) {
        long sum = 0;
        for (Taken t : taken) {
            sum += t.covers(year) ? t.offer.amount : 0;
        }
        return sum;
    }

    private long income(int party, int year) {
        long sum = 0;
        for (Taken t : taken) {
            sum += t.offer.party == party && t.covers(year) ? (long) t.offer.amount * t.price : 0;
        }
        return sum;
    }

    private long obligation(int party, int year, int hour) {
        long sum = 0;
        for (Taken t : taken) {
            sum += t.offer.party == party && t.covers(year) ? t.offer.amount : 0;
        }
        for (Trade t : trades) {
            if (t.covers(year, hour)) {
                sum += t.other == party ? t.amount : t.party == party ? -t.amount : 0;
            }
        }
        return sum;
    }

    private long least(int party, int year, int from, int to) {
        long least = Long.MAX_VALUE;
        for (int hour = from; hour <= to; hour++) {
            least = Math.min(least, obligation(party, year, hour));
        }
        return least;
    }

    private long lack(int party, int year) {
        long sum = 0;
        for (int hour = 0; hour < 12; hour++) {
            sum += stressed[year][hour] ? obligation(party, year, hour) - output[party][year][hour] : 0;
        }
        return sum;
    }

    private long penalty(int party, int year) {
        long lack = lack(party, year);
        return lack < 0 ? 0 : Math.min(lack * rate, income(party, year) * cap / 100);
    }

    private long penalties() {
        long sum = 0;
        for (int party = 0; party < 5; party++) {
            for (int year = 0; year < 8; year++) {
                sum += penalty(party, year);
            }
        }
        return sum;
    }
}
