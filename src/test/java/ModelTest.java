import java.util.Random;

/** Long runs of calls, the same for the book and for the model; every answer must be the same. */
final class ModelTest {
    private static final int BOOKS = 800;
    private static final int CALLS = 512;
    private static final long TOP = 1_000_000_000L;
    private static final long BOTTOM = 1_000_000L;

    interface Answer {
        long get();
    }

    private final Random random;
    private final PartBook book = new PartBook();
    private final Model model = new Model();
    /** How many parts, names, rules and days a run plays with; small runs meet more often. */
    private final int parts;
    private final int names;
    private final int stock;
    /** Whether a run asks with the greatest fractions too. */
    private final boolean wild;
    private int calls = 0;

    private ModelTest(int seed) {
        random = new Random(seed);
        parts = seed % 10 == 0 ? 41 : 2 + random.nextInt(6);
        names = seed % 7 == 0 ? 12 : 1 + random.nextInt(3);
        stock = seed % 20 == 3 ? 20_000 : seed % 2 == 0 ? 60 : 700;
        wild = seed % 3 == 0;
    }

    public static void main(String[] args) {
        for (int seed = 0; seed < BOOKS; seed++) {
            new ModelTest(seed).run(seed);
        }
        Check.end();
    }

    private void run(int seed) {
        for (int i = 0; i < parts; i++) {
            int maker = random.nextInt(16);
            same(seed, "part", () -> book.part(maker), () -> model.part(maker));
        }
        same(seed, "rule", book::rule, model::rule);
        for (int i = 0; i < CALLS && calls < CALLS; i++) {
            int kind = random.nextInt(30);
            if (kind < 12) {
                describe(seed, kind);
            } else if (kind < 22) {
                supply(seed, kind - 12);
            } else {
                take(seed, kind - 22);
            }
        }
    }

    private void same(int seed, String what, Answer got, Answer due) {
        if (calls >= CALLS) {
            return; // what later calls answer is free
        }
        calls++;
        String one = answer(got);
        String other = answer(due);
        Check.is("book " + seed + " " + what + ": " + one + ", due is " + other, one.equals(other));
    }

    private static String answer(Answer call) {
        try {
            return String.valueOf(call.get());
        } catch (RuntimeException e) {
            return e.getClass().getSimpleName();
        }
    }

    private static long bit(boolean answer) {
        return answer ? 1 : 0;
    }

    /** Mostly least .. most, at times one beside it, or any at all. */
    private int number(int least, int most) {
        int way = random.nextInt(60);
        if (way == 0) {
            return least - 1;
        }
        if (way == 1) {
            return most + 1;
        }
        if (way == 2) {
            return random.nextInt();
        }
        if (way < 6) {
            return random.nextBoolean() ? least : most;
        }
        return least + random.nextInt(most - least + 1);
    }

    private long above() {
        if (!wild) {
            return number(0, 6);
        }
        long[] kinds = {TOP, TOP - 1, TOP - random.nextInt(5), random.nextInt((int) TOP), 1, 0, TOP + 1};
        return random.nextInt(40) == 0 ? TOP + 1 : kinds[random.nextInt(6)];
    }

    private long below() {
        if (!wild) {
            return number(1, 6);
        }
        long[] kinds = {BOTTOM, BOTTOM - 1, BOTTOM - random.nextInt(5), 1 + random.nextInt((int) BOTTOM), 1};
        return random.nextInt(40) == 0 ? BOTTOM + 1 : kinds[random.nextInt(5)];
    }

    private int unit() {
        return wild ? number(-9, 9) : number(-1, 1);
    }

    private int part() {
        return number(0, parts - 1);
    }

    private int name() {
        return number(0, names - 1);
    }

    private int rule() {
        return number(0, 2);
    }

    private long day() {
        long[] kinds = {Long.MIN_VALUE, Long.MAX_VALUE, -1, 0, 1};
        return random.nextInt(5) == 0 ? kinds[random.nextInt(5)] : random.nextInt(12) - 6;
    }

    private void describe(int seed, int kind) {
        int part = part();
        int name = name();
        int rule = rule();
        long a = above();
        long b = below();
        long c = above();
        long d = below();
        switch (kind) {
            case 0, 1, 2, 3 -> {
                int unit = unit();
                same(seed, "value", () -> bit(book.value(part, name, a, b, unit)),
                        () -> bit(model.value(part, name, a, b, unit)));
            }
            case 4 -> {
                int what = number(0, 1);
                same(seed, "told", () -> book.told(part, name, what), () -> model.told(part, name, what));
            }
            case 5 -> {
                int how = number(-1, 2);
                same(seed, "ask", () -> bit(book.ask(rule, name, how)), () -> bit(model.ask(rule, name, how)));
            }
            case 6 -> {
                int k = number(0, 41);
                same(seed, "alternates", () -> book.alternates(part, rule), () -> model.alternates(part, rule));
                same(seed, "found", () -> book.found(k), () -> model.found(k));
            }
            case 7, 8 -> {
                same(seed, "search", () -> book.search(name, a, b, c, d), () -> model.search(name, a, b, c, d));
                allFound(seed);
            }
            case 9 -> allFound(seed);
            case 10 -> {
                int percent = number(1, 100);
                same(seed, "derate", () -> book.derate(part, name, a, b, percent),
                        () -> model.derate(part, name, a, b, percent));
            }
            default -> {
                if (random.nextInt(3) == 0) {
                    same(seed, "rule", book::rule, model::rule);
                } else {
                    int place = number(0, 99);
                    int maker = number(0, 15);
                    same(seed, "maker", () -> bit(book.maker(maker, place)), () -> bit(model.maker(maker, place)));
                }
            }
        }
    }

    private void allFound(int seed) {
        for (int k = -1; k < parts + 1; k++) {
            int at = k;
            same(seed, "found(" + k + ")", () -> book.found(at), () -> model.found(at));
        }
    }

    private void supply(int seed, int kind) {
        int part = part();
        switch (kind) {
            case 0, 1, 2 -> {
                int from = random.nextInt(40) == 0 ? number(1, 10_000) : number(1, Math.min(stock, 9_999));
                long cents = random.nextInt(8) == 0 ? number(1, 1_000_000) : 1 + 60 / (1 + random.nextInt(30));
                int currency = number(0, 3);
                same(seed, "price", () -> bit(book.price(part, from, cents, currency)),
                        () -> bit(model.price(part, from, cents, currency)));
            }
            case 3 -> {
                int currency = number(0, 3);
                long r = random.nextInt(3) == 0 ? number(1, 1_000_000) : number(1, 3) * 500;
                same(seed, "rate", () -> bit(book.rate(currency, r)), () -> bit(model.rate(currency, r)));
            }
            case 4 -> {
                int size = random.nextInt(3) == 0 ? number(1, 1000) : number(2, 14);
                same(seed, "pack", () -> bit(book.pack(part, size)), () -> bit(model.pack(part, size)));
            }
            case 5, 6, 7 -> {
                int n = number(0, stock);
                same(seed, "stock", () -> bit(book.stock(part, n)), () -> bit(model.stock(part, n)));
            }
            default -> {
                long day = day();
                int state = random.nextInt(3) == 0 ? number(0, 3) : 1;
                same(seed, "life", () -> bit(book.life(part, day, state)), () -> bit(model.life(part, day, state)));
            }
        }
    }

    private void take(int seed, int kind) {
        int part = part();
        int rule = rule();
        int quantity = random.nextInt(5) == 0 ? number(1, 10_000) : number(1, Math.max(1, stock / 4));
        long day = day();
        switch (kind) {
            case 0 -> same(seed, "state", () -> book.state(part, day), () -> model.state(part, day));
            case 1, 2 -> same(seed, "cost", () -> book.cost(part, quantity), () -> model.cost(part, quantity));
            case 3, 4 -> same(seed, "best", () -> book.best(part, quantity), () -> model.best(part, quantity));
            case 5, 6 -> same(seed, "choose", () -> book.choose(part, rule, quantity, day),
                    () -> model.choose(part, rule, quantity, day));
            default -> same(seed, "buy", () -> book.buy(part, rule, quantity, day),
                    () -> model.buy(part, rule, quantity, day));
        }
    }
}
