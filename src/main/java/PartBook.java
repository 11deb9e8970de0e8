import java.util.Arrays;

/**
 * A book of parts: values as exact fractions, alternates by rules, searches by spans, prices by
 * steps and currencies, packs, stock, states of life by days, loads against ratings; what a
 * quantity costs at least, and which part to take.
 */
public final class PartBook {
    public static final int NONE = -1;

    private static final int MOST_PARTS = 40;
    private static final int MOST_RULES = 10;
    private static final int MAKERS = 16;
    private static final int NAMES = 12;
    private static final int CURRENCIES = 4;

    private static final int MOST_PLACE = 99;
    private static final int FIRST_PLACE = 50;
    private static final long MOST_ABOVE = 1_000_000_000L;
    private static final long MOST_BELOW = 1_000_000L;
    private static final int MOST_UNIT = 9;
    private static final int MOST_BEGINNING = 10_000;
    private static final long MOST_CENTS = 1_000_000L;
    private static final long MOST_RATE = 1_000_000L;
    private static final long FIRST_RATE = 1_000L;
    private static final int MOST_PACK = 1_000;
    private static final int MOST_STOCK = 20_000;
    private static final int MOST_QUANTITY = 10_000;
    private static final int MOST_PERCENT = 100;

    private static final int EQUAL = 0;
    private static final int AT_LEAST = 1;
    private static final int AT_MOST = 2;

    private static final int SOLD = 1;
    private static final int LAST_ONES = 2;
    private static final int PAST = 3;

    private final Part[] parts;
    private int partCount;
    private final int[] places;
    private final int[] asks;
    private int ruleCount;
    private final long[] rates;
    private final int[] hits;
    private int hitCount;

    public PartBook() {
        parts = new Part[MOST_PARTS];
        partCount = 0;
        places = new int[MAKERS];
        Arrays.fill(places, FIRST_PLACE);
        asks = new int[MOST_RULES * NAMES];
        Arrays.fill(asks, NONE);
        ruleCount = 0;
        rates = new long[CURRENCIES];
        Arrays.fill(rates, FIRST_RATE);
        hits = new int[MOST_PARTS];
        hitCount = 0;
    }

    public int part(int maker) throws IllegalArgumentException {
        checkNumber(maker, 0, MAKERS - 1);
        if (partCount >= MOST_PARTS) {
            return NONE;
        }
        parts[partCount] = new Part(partCount, maker);
        partCount++;
        return partCount - 1;
    }

    public boolean maker(int maker, int place) throws IllegalArgumentException {
        checkNumber(maker, 0, MAKERS - 1);
        checkNumber(place, 0, MOST_PLACE);
        boolean other = places[maker] != place;
        places[maker] = place;
        return other;
    }

    public boolean value(int part, int name, long above, long below, int unit)
            throws IndexOutOfBoundsException, IllegalArgumentException {
        Part one = partOf(part);
        checkIndex(name, NAMES);
        checkFraction(above, below);
        checkNumber(unit, -MOST_UNIT, MOST_UNIT);
        long top = unit > 0 ? above * Fraction.tenTo(unit) : above;
        long bottom = unit < 0 ? below * Fraction.tenTo(-unit) : below;
        return one.setFraction(name, top, bottom);
    }

    public long told(int part, int name, int what) throws IndexOutOfBoundsException {
        Part one = partOf(part);
        checkIndex(name, NAMES);
        checkIndex(what, 2);
        if (!one.has(name)) {
            return NONE;
        }
        return what == 0 ? one.aboves[name] : one.belows[name];
    }

    public int rule() {
        if (ruleCount >= MOST_RULES) {
            return NONE;
        }
        ruleCount++;
        return ruleCount - 1;
    }

    public boolean ask(int rule, int name, int how)
            throws IndexOutOfBoundsException, IllegalArgumentException {
        checkIndex(rule, ruleCount);
        checkIndex(name, NAMES);
        checkNumber(how, NONE, AT_MOST);
        int at = rule * NAMES + name;
        boolean other = asks[at] != how;
        asks[at] = how;
        return other;
    }

    public int alternates(int part, int rule) throws IndexOutOfBoundsException {
        Part one = partOf(part);
        checkIndex(rule, ruleCount);
        hitCount = 0;
        for (int i = 0; i < partCount; i++) {
            if (isAlternate(parts[i], one, rule)) {
                addHit(parts[i], NONE);
            }
        }
        return hitCount;
    }

    public int search(int name, long a, long b, long c, long d)
            throws IndexOutOfBoundsException, IllegalArgumentException {
        checkIndex(name, NAMES);
        checkFraction(a, b);
        checkFraction(c, d);
        hitCount = 0;
        for (int i = 0; i < partCount; i++) {
            Part one = parts[i];
            if (one.has(name) && one.against(name, a, b) >= 0 && one.against(name, c, d) <= 0) {
                addHit(one, name);
            }
        }
        return hitCount;
    }

    public int found(int k) {
        return k >= 0 && k < hitCount ? hits[k] : NONE;
    }

    public boolean price(int part, int from, long cents, int currency)
            throws IndexOutOfBoundsException, IllegalArgumentException {
        Part one = partOf(part);
        checkIndex(currency, CURRENCIES);
        checkNumber(from, 1, MOST_BEGINNING);
        checkNumber(cents, 1, MOST_CENTS);
        return one.prices.tell(from, cents, currency);
    }

    public boolean rate(int currency, long r)
            throws IndexOutOfBoundsException, IllegalArgumentException {
        checkIndex(currency, CURRENCIES);
        checkNumber(r, 1, MOST_RATE);
        boolean other = rates[currency] != r;
        rates[currency] = r;
        return other;
    }

    public boolean pack(int part, int size)
            throws IndexOutOfBoundsException, IllegalArgumentException {
        Part one = partOf(part);
        checkNumber(size, 1, MOST_PACK);
        return one.packs.add(size);
    }

    public boolean stock(int part, int n)
            throws IndexOutOfBoundsException, IllegalArgumentException {
        Part one = partOf(part);
        checkNumber(n, 0, MOST_STOCK);
        boolean other = one.pieces != n;
        one.pieces = n;
        return other;
    }

    public boolean life(int part, long day, int state)
            throws IndexOutOfBoundsException, IllegalArgumentException {
        Part one = partOf(part);
        checkNumber(state, 0, PAST);
        return one.states.tell(day, 0, state);
    }

    public int state(int part, long day) throws IndexOutOfBoundsException {
        return partOf(part).stateOn(day);
    }

    public long cost(int part, int quantity)
            throws IndexOutOfBoundsException, IllegalArgumentException {
        Part one = partOf(part);
        checkNumber(quantity, 1, MOST_QUANTITY);
        return leastCost(one, quantity);
    }

    public int best(int part, int quantity)
            throws IndexOutOfBoundsException, IllegalArgumentException {
        Part one = partOf(part);
        checkNumber(quantity, 1, MOST_QUANTITY);
        return bestTotal(one, quantity);
    }

    public int choose(int part, int rule, int quantity, long day)
            throws IndexOutOfBoundsException, IllegalArgumentException {
        Part chosen = chosenFor(part, rule, quantity, day);
        return chosen == null ? NONE : chosen.number;
    }

    public int buy(int part, int rule, int quantity, long day)
            throws IndexOutOfBoundsException, IllegalArgumentException {
        Part chosen = chosenFor(part, rule, quantity, day);
        if (chosen == null) {
            return NONE;
        }
        int total = bestTotal(chosen, quantity);
        chosen.pieces -= total;
        return total;
    }

    public int derate(int part, int name, long a, long b, int percent)
            throws IndexOutOfBoundsException, IllegalArgumentException {
        Part one = partOf(part);
        checkIndex(name, NAMES);
        checkFraction(a, b);
        checkNumber(percent, 1, MOST_PERCENT);
        if (!one.has(name)) {
            return NONE;
        }
        // percent goes under the load: times the value it could pass the range of a long
        return one.against(name, a * 100, b * percent) >= 0 ? 1 : 0;
    }

    private Part partOf(int part) {
        Part one = part >= 0 && part < partCount ? parts[part] : null;
        if (one == null) {
            throw new IndexOutOfBoundsException("no such part");
        }
        return one;
    }

    private static void checkIndex(int index, int count) {
        if (index < 0 || index >= count) {
            throw new IndexOutOfBoundsException("no such rule, name, currency or what");
        }
    }

    private static void checkNumber(long number, long least, long most) {
        if (number < least || number > most) {
            throw new IllegalArgumentException("a number is out of its range");
        }
    }

    private static void checkFraction(long above, long below) {
        checkNumber(above, 0, MOST_ABOVE);
        checkNumber(below, 1, MOST_BELOW);
    }

    private boolean isAlternate(Part other, Part one, int rule) {
        if (other == one) {
            return false;
        }
        for (int name = 0; name < NAMES; name++) {
            int how = asks[rule * NAMES + name];
            if (how != NONE && !meets(other, one, name, how)) {
                return false;
            }
        }
        return true;
    }

    private static boolean meets(Part other, Part one, int name, int how) {
        if (!other.has(name) || !one.has(name)) {
            return false;
        }
        int order = other.against(name, one.aboves[name], one.belows[name]);
        if (how == EQUAL) {
            return order == 0;
        }
        return how == AT_LEAST ? order >= 0 : order <= 0;
    }

    /** Parts come here by rising numbers, so one goes behind those that it doesn't stand before. */
    private void addHit(Part one, int name) {
        if (hitCount >= MOST_PARTS) {
            return;
        }
        int at = hitCount;
        while (at > 0 && goesBefore(one, parts[hits[at - 1]], name)) {
            hits[at] = hits[at - 1];
            at--;
        }
        hits[at] = one.number;
        hitCount++;
    }

    /** By the values of a name, where there is one, then as parts stand. */
    private boolean goesBefore(Part one, Part other, int name) {
        if (name != NONE) {
            int order = one.against(name, other.aboves[name], other.belows[name]);
            if (order != 0) {
                return order < 0;
            }
        }
        return standsBefore(one, other);
    }

    private boolean standsBefore(Part one, Part other) {
        int place = places[one.maker];
        int otherPlace = places[other.maker];
        return place != otherPlace ? place < otherPlace : one.number < other.number;
    }

    /**
     * Within one price more pieces cost more, so of each price only the least total that can be
     * had counts; the prices come by rising beginnings, so the first of the same cost is the least.
     */
    private int bestTotal(Part one, int quantity) {
        Steps prices = one.prices;
        int best = NONE;
        long least = 0;
        for (int step = 0; step < prices.count; step++) {
            long first = Math.max(quantity, prices.begins[step]);
            long last = Math.min(one.pieces, prices.endOf(step));
            int total = one.packs.firstSum(first, last);
            if (total != NONE) {
                long cost = costAt(one, step, total);
                if (best == NONE || cost < least) {
                    best = total;
                    least = cost;
                }
            }
        }
        return best;
    }

    private long leastCost(Part one, int quantity) {
        int total = bestTotal(one, quantity);
        int step = one.prices.stepOf(total);
        return total == NONE || step == NONE ? NONE : costAt(one, step, total);
    }

    private long costAt(Part one, int step, int total) {
        return total * one.prices.amounts[step] * rates[one.prices.kinds[step]];
    }

    /** What a quantity of a part costs if the part may be taken on a day, else NONE. */
    private long offer(Part one, int quantity, long day) {
        int state = one.stateOn(day);
        return state == SOLD || state == LAST_ONES ? leastCost(one, quantity) : NONE;
    }

    /** The part that choose() tells, or null. */
    private Part chosenFor(int part, int rule, int quantity, long day) {
        Part one = partOf(part);
        checkIndex(rule, ruleCount);
        checkNumber(quantity, 1, MOST_QUANTITY);
        return cheapest(one, rule, quantity, day);
    }

    private Part cheapest(Part one, int rule, int quantity, long day) {
        long least = offer(one, quantity, day);
        Part chosen = least == NONE ? null : one;
        for (int i = 0; i < partCount; i++) {
            Part other = parts[i];
            if (isAlternate(other, one, rule)) {
                long cost = offer(other, quantity, day);
                if (cost != NONE && (chosen == null || cost < least
                        || cost == least && chosen != one && standsBefore(other, chosen))) {
                    chosen = other;
                    least = cost;
                }
            }
        }
        return chosen;
    }

    /** Arithmetic of fractions whose products could pass the range of a long. */
    private static final class Fraction {
        /** Euclid's steps on two longs stay under 93. */
        private static final int MOST_STEPS = 100;

        static long tenTo(int power) {
            long result = 1;
            for (int i = 0; i < power; i++) {
                result *= 10;
            }
            return result;
        }

        /** At least 1, whatever comes, so that it may divide. */
        static long commonDivisor(long one, long other) {
            long a = one;
            long b = other;
            for (int i = 0; i < MOST_STEPS && b != 0; i++) {
                long rest = a % b;
                a = b;
                b = rest;
            }
            return Math.max(a, 1);
        }

        /**
         * Below 0, 0, above 0: as a / b is below, equal to, above c / d. Compares whole parts, then
         * the rests upside down, where the order turns round: nothing is multiplied.
         */
        static int compare(long a, long b, long c, long d) {
            int sign = 1;
            for (int i = 0; i < MOST_STEPS && b != 0 && d != 0; i++) {
                long whole = a / b;
                long otherWhole = c / d;
                if (whole != otherWhole) {
                    return whole < otherWhole ? -sign : sign;
                }
                long rest = a % b;
                long otherRest = c % d;
                a = b;
                b = rest;
                c = d;
                d = otherRest;
                sign = -sign;
            }
            if (b == 0 && d == 0) {
                return 0;
            }
            return b == 0 ? sign : -sign;
        }
    }

    /**
     * What holds from a beginning on, until the next one: prices by pieces (cents of a currency),
     * states by days (without an amount). Rows are sorted by their beginnings.
     */
    private static final class Steps {
        private static final int MOST = 8;

        final long[] begins;
        final long[] amounts;
        final int[] kinds;
        int count;

        Steps() {
            begins = new long[MOST];
            amounts = new long[MOST];
            kinds = new int[MOST];
            count = 0;
        }

        boolean tell(long begin, long amount, int kind) {
            int at = stepOf(begin);
            if (at != NONE && begins[at] == begin) {
                boolean other = amounts[at] != amount || kinds[at] != kind;
                put(at, begin, amount, kind);
                return other;
            }
            if (count >= MOST) {
                return false;
            }
            for (int i = count; i > at + 1; i--) {
                put(i, begins[i - 1], amounts[i - 1], kinds[i - 1]);
            }
            put(at + 1, begin, amount, kind);
            count++;
            return true;
        }

        /** The step with the greatest beginning that is not above a point, or NONE. */
        int stepOf(long point) {
            int step = NONE;
            while (step + 1 < count && begins[step + 1] <= point) {
                step++;
            }
            return step;
        }

        /** The last point before the next beginning. */
        long endOf(int step) {
            return step + 1 < count ? begins[step + 1] - 1 : Long.MAX_VALUE;
        }

        private void put(int at, long begin, long amount, int kind) {
            begins[at] = begin;
            amounts[at] = amount;
            kinds[at] = kind;
        }
    }

    /** The sizes of packs, and a bit for each number of pieces that is a sum of them. */
    private static final class Packs {
        private static final int MOST = 6;
        private static final int WORD = 64;

        private final int[] sizes;
        private int count;
        /** Made with the first size: most parts may never have one. */
        private long[] sums;

        Packs() {
            sizes = new int[MOST];
            count = 0;
            sums = null;
        }

        boolean add(int size) {
            if (count >= MOST) {
                return false;
            }
            for (int i = 0; i < count; i++) {
                if (sizes[i] == size) {
                    return false;
                }
            }
            sizes[count] = size;
            count++;
            addSums(size);
            return true;
        }

        /** Doubled shifts reach every multiple of the size in few passes. */
        private void addSums(int size) {
            if (sums == null) {
                sums = new long[MOST_STOCK / WORD + 1];
                sums[0] = 1;
            }
            for (int shift = Math.max(size, 1); shift <= MOST_STOCK; shift *= 2) {
                joinShifted(sums, shift);
            }
        }

        /** From the top down, so that each word is read before it is written. */
        private static void joinShifted(long[] words, int shift) {
            int apart = shift / WORD;
            int bits = shift % WORD;
            for (int i = words.length - 1; i >= apart; i--) {
                long moved = words[i - apart] << bits;
                if (bits != 0 && i > apart) {
                    moved |= words[i - apart - 1] >>> (WORD - bits);
                }
                words[i] |= moved;
            }
        }

        /** The least sum of packs from first to last, or NONE. */
        int firstSum(long first, long last) {
            int total = (int) Math.max(0, Math.min(first, MOST_STOCK + 1));
            int end = (int) Math.max(NONE, Math.min(last, MOST_STOCK));
            while (total <= end) {
                long rest = sums == null ? 1 : sums[total / WORD] >>> (total % WORD);
                if ((rest & 1) != 0) {
                    return total;
                }
                total = rest == 0 ? (total / WORD + 1) * WORD : total + 1;
            }
            return NONE;
        }
    }

    private static final class Part {
        final int number;
        final int maker;
        int pieces;
        /** Values in lowest terms; below is 0 where there is none. */
        final long[] aboves;
        final long[] belows;
        final Steps prices;
        final Steps states;
        final Packs packs;

        Part(int number, int maker) {
            this.number = number;
            this.maker = maker;
            pieces = 0;
            aboves = new long[NAMES];
            belows = new long[NAMES];
            prices = new Steps();
            states = new Steps();
            packs = new Packs();
        }

        boolean has(int name) {
            return belows[name] != 0;
        }

        boolean setFraction(int name, long above, long below) {
            long divisor = Fraction.commonDivisor(above, below);
            long top = above / divisor;
            long bottom = below / divisor;
            boolean other = aboves[name] != top || belows[name] != bottom;
            aboves[name] = top;
            belows[name] = bottom;
            return other;
        }

        int against(int name, long above, long below) {
            return Fraction.compare(aboves[name], belows[name], above, below);
        }

        int stateOn(long day) {
            int step = states.stepOf(day);
            return step == NONE ? 0 : states.kinds[step];
        }
    }
}
