import java.math.BigInteger;
import java.util.ArrayList;
import java.util.Arrays;
import java.util.Comparator;
import java.util.List;
import java.util.TreeMap;
import java.util.TreeSet;

/** The document's words, as plainly as they can be written, without regard to time or space. */
final class Model {
    private static final int NONE = -1;

    private static final class Thing {
        int number;
        int maker;
        int stock;
        BigInteger[][] values = new BigInteger[12][];
        TreeMap<Integer, long[]> prices = new TreeMap<>();
        TreeSet<Integer> packs = new TreeSet<>();
        TreeMap<Long, Integer> days = new TreeMap<>();
        boolean[] sums = null;
    }

    private final List<Thing> things = new ArrayList<>();
    private final List<int[]> rules = new ArrayList<>();
    private final int[] places = new int[16];
    private final long[] rates = new long[4];
    private List<Integer> found = new ArrayList<>();

    Model() {
        Arrays.fill(places, 50);
        Arrays.fill(rates, 1000);
    }

    private static void index(boolean good) {
        if (!good) {
            throw new IndexOutOfBoundsException();
        }
    }

    private static void argument(boolean good) {
        if (!good) {
            throw new IllegalArgumentException();
        }
    }

    private static boolean in(long number, long least, long most) {
        return least <= number && number <= most;
    }

    private Thing thing(int part) {
        index(in(part, 0, things.size() - 1));
        return things.get(part);
    }

    int part(int maker) {
        argument(in(maker, 0, 15));
        if (things.size() == 40) {
            return NONE;
        }
        Thing made = new Thing();
        made.number = things.size();
        made.maker = maker;
        things.add(made);
        return made.number;
    }

    boolean maker(int maker, int place) {
        argument(in(maker, 0, 15) && in(place, 0, 99));
        boolean other = places[maker] != place;
        places[maker] = place;
        return other;
    }

    boolean value(int part, int name, long above, long below, int unit) {
        Thing one = thing(part);
        index(in(name, 0, 11));
        argument(in(above, 0, 1_000_000_000) && in(below, 1, 1_000_000) && in(unit, -9, 9));
        BigInteger top = BigInteger.valueOf(above).multiply(BigInteger.TEN.pow(Math.max(unit, 0)));
        BigInteger bottom = BigInteger.valueOf(below).multiply(BigInteger.TEN.pow(Math.max(-unit, 0)));
        BigInteger divisor = top.gcd(bottom);
        BigInteger[] fraction = {top.divide(divisor), bottom.divide(divisor)};
        boolean other = !Arrays.equals(one.values[name], fraction);
        one.values[name] = fraction;
        return other;
    }

    long told(int part, int name, int what) {
        Thing one = thing(part);
        index(in(name, 0, 11));
        index(in(what, 0, 1));
        return one.values[name] == null ? NONE : one.values[name][what].longValueExact();
    }

    int rule() {
        if (rules.size() == 10) {
            return NONE;
        }
        int[] asks = new int[12];
        Arrays.fill(asks, NONE);
        rules.add(asks);
        return rules.size() - 1;
    }

    boolean ask(int rule, int name, int how) {
        index(in(rule, 0, rules.size() - 1));
        index(in(name, 0, 11));
        argument(in(how, -1, 2));
        boolean other = rules.get(rule)[name] != how;
        rules.get(rule)[name] = how;
        return other;
    }

    private static int compare(BigInteger[] one, BigInteger[] other) {
        return one[0].multiply(other[1]).compareTo(other[0].multiply(one[1]));
    }

    private Comparator<Thing> standing() {
        return Comparator.<Thing>comparingInt(one -> places[one.maker]).thenComparingInt(one -> one.number);
    }

    private List<Thing> alternatesOf(Thing one, int rule) {
        List<Thing> result = new ArrayList<>();
        for (Thing other : things) {
            boolean good = other != one;
            for (int name = 0; name < 12 && good; name++) {
                int how = rules.get(rule)[name];
                if (how == NONE) {
                    continue;
                }
                if (one.values[name] == null || other.values[name] == null) {
                    good = false;
                    continue;
                }
                int order = compare(other.values[name], one.values[name]);
                good = how == 0 ? order == 0 : how == 1 ? order >= 0 : order <= 0;
            }
            if (good) {
                result.add(other);
            }
        }
        result.sort(standing());
        return result;
    }

    private int keep(List<Thing> list) {
        found = new ArrayList<>();
        for (Thing one : list) {
            found.add(one.number);
        }
        return found.size();
    }

    int alternates(int part, int rule) {
        Thing one = thing(part);
        index(in(rule, 0, rules.size() - 1));
        return keep(alternatesOf(one, rule));
    }

    private static void fraction(long above, long below) {
        argument(in(above, 0, 1_000_000_000) && in(below, 1, 1_000_000));
    }

    private static BigInteger[] pair(long above, long below) {
        return new BigInteger[] {BigInteger.valueOf(above), BigInteger.valueOf(below)};
    }

    int search(int name, long a, long b, long c, long d) {
        index(in(name, 0, 11));
        fraction(a, b);
        fraction(c, d);
        List<Thing> result = new ArrayList<>();
        for (Thing one : things) {
            BigInteger[] value = one.values[name];
            if (value != null && compare(value, pair(a, b)) >= 0 && compare(value, pair(c, d)) <= 0) {
                result.add(one);
            }
        }
        Comparator<Thing> byValue = (one, other) -> compare(one.values[name], other.values[name]);
        result.sort(byValue.thenComparing(standing()));
        return keep(result);
    }

    int found(int k) {
        return in(k, 0, found.size() - 1) ? found.get(k) : NONE;
    }

    boolean price(int part, int from, long cents, int currency) {
        Thing one = thing(part);
        index(in(currency, 0, 3));
        argument(in(from, 1, 10_000) && in(cents, 1, 1_000_000));
        long[] price = {cents, currency};
        if (Arrays.equals(one.prices.get(from), price)) {
            return false;
        }
        if (!one.prices.containsKey(from) && one.prices.size() == 8) {
            return false;
        }
        one.prices.put(from, price);
        return true;
    }

    boolean rate(int currency, long r) {
        index(in(currency, 0, 3));
        argument(in(r, 1, 1_000_000));
        boolean other = rates[currency] != r;
        rates[currency] = r;
        return other;
    }

    boolean pack(int part, int size) {
        Thing one = thing(part);
        argument(in(size, 1, 1000));
        if (one.packs.contains(size) || one.packs.size() == 6) {
            return false;
        }
        one.packs.add(size);
        one.sums = null;
        return true;
    }

    boolean stock(int part, int n) {
        Thing one = thing(part);
        argument(in(n, 0, 20_000));
        boolean other = one.stock != n;
        one.stock = n;
        return other;
    }

    boolean life(int part, long day, int state) {
        Thing one = thing(part);
        argument(in(state, 0, 3));
        Integer was = one.days.get(day);
        if (was == null ? one.days.size() == 8 : was == state) {
            return false;
        }
        one.days.put(day, state);
        return true;
    }

    int state(int part, long day) {
        Thing one = thing(part);
        return one.days.floorEntry(day) == null ? 0 : one.days.floorEntry(day).getValue();
    }

    private static boolean[] sums(Thing one) {
        if (one.sums == null) {
            one.sums = new boolean[20_001];
            one.sums[0] = true;
            for (int total = 1; total <= 20_000; total++) {
                one.sums[total] = one.packs.isEmpty();
                for (int size : one.packs) {
                    one.sums[total] |= size <= total && one.sums[total - size];
                }
            }
        }
        return one.sums;
    }

    /** Every total is looked at: the best one and its cost, or null. */
    private long[] bestOf(Thing one, int quantity) {
        long[] result = null;
        for (int total = quantity; total <= one.stock; total++) {
            if (sums(one)[total] && one.prices.floorEntry(total) != null) {
                long[] price = one.prices.floorEntry(total).getValue();
                long cost = total * price[0] * rates[(int) price[1]];
                if (result == null || cost < result[1]) {
                    result = new long[] {total, cost};
                }
            }
        }
        return result;
    }

    long cost(int part, int quantity) {
        Thing one = thing(part);
        argument(in(quantity, 1, 10_000));
        long[] result = bestOf(one, quantity);
        return result == null ? NONE : result[1];
    }

    int best(int part, int quantity) {
        Thing one = thing(part);
        argument(in(quantity, 1, 10_000));
        long[] result = bestOf(one, quantity);
        return result == null ? NONE : (int) result[0];
    }

    int choose(int part, int rule, int quantity, long day) {
        Thing one = thing(part);
        index(in(rule, 0, rules.size() - 1));
        argument(in(quantity, 1, 10_000));
        List<Thing> row = alternatesOf(one, rule);
        row.add(0, one);
        int chosen = NONE;
        long least = 0;
        for (Thing other : row) {
            int state = state(other.number, day);
            long[] offer = state == 1 || state == 2 ? bestOf(other, quantity) : null;
            if (offer != null && (chosen == NONE || offer[1] < least)) {
                chosen = other.number;
                least = offer[1];
            }
        }
        return chosen;
    }

    int buy(int part, int rule, int quantity, long day) {
        int chosen = choose(part, rule, quantity, day);
        if (chosen == NONE) {
            return NONE;
        }
        int total = best(chosen, quantity);
        things.get(chosen).stock -= total;
        return total;
    }

    int derate(int part, int name, long a, long b, int percent) {
        Thing one = thing(part);
        index(in(name, 0, 11));
        fraction(a, b);
        argument(in(percent, 1, 100));
        if (one.values[name] == null) {
            return NONE;
        }
        BigInteger[] rating = {
            one.values[name][0].multiply(BigInteger.valueOf(percent)), one.values[name][1]};
        return compare(pair(100 * a, b), rating) <= 0 ? 1 : 0;
    }
}
