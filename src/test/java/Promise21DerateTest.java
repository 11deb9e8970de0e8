/** Promise 21: derate. */
final class Promise21DerateTest {
    private static final long TOP = 1_000_000_000L;
    private static final long BOTTOM = 1_000_000L;

    public static void main(String[] args) {
        Cases cases = new Cases("promise 21, derate");
        cases.parts((book, part) -> book.derate(part, 0, 1, 1, 50));
        cases.names((book, name) -> book.derate(0, name, 1, 1, 50));
        cases.outsideLong("a", 0, TOP, (book, a) -> book.derate(0, 0, a, 1, 50));
        cases.outsideLong("b", 1, BOTTOM, (book, b) -> book.derate(0, 0, 1, b, 50));
        cases.outside("percent", 1, 100, Check.ARGUMENT, (book, percent) -> book.derate(0, 0, 1, 1, percent));
        cases.refuses("no such part with a wrong number", Check.INDEX, book -> book.derate(3, 0, 1, 0, 50));
        cases.refuses("no such name with a wrong number", Check.INDEX, book -> book.derate(0, 12, 1, 1, 0));
        cases.refuses("a wrong number where there is no value", Check.ARGUMENT,
                book -> book.derate(0, 5, 1, 0, 50));
        none(cases);
        borders(cases);
        numbers(cases);
        nothing(cases);
        ends(cases);
        cases.end();
    }

    private static void none(Cases cases) {
        cases.holds("NONE where there is no value", () -> {
            PartBook book = Books.of(0, 0);
            book.value(0, 6, 1, 1, 0);
            book.value(1, 7, 1, 1, 0);
            for (int name = 0; name < 12; name++) {
                Check.same("name " + name, book.derate(0, name, 0, 1, 100), name == 6 ? 1 : -1);
            }
        });
    }

    private static void rates(Cases cases, String name, long[] value, long[] load, int percent, int due) {
        cases.holds(name, () -> {
            PartBook book = Books.of(0);
            book.value(0, 11, value[0], value[1], (int) value[2]);
            Check.same("derate", book.derate(0, 11, load[0], load[1], percent), due);
        });
    }

    private static void borders(Cases cases) {
        long[] value = {47, 10, 0};
        rates(cases, "a load of just so many percent", value, new long[] {235, 100}, 50, 1);
        rates(cases, "the same load in other terms", value, new long[] {47, 20}, 50, 1);
        rates(cases, "a load of a little less", value, new long[] {2_349_999, BOTTOM}, 50, 1);
        rates(cases, "a load of a little more", value, new long[] {2_350_001, BOTTOM}, 50, 0);
        rates(cases, "one percent less than the load", value, new long[] {47, 20}, 49, 0);
        rates(cases, "one percent more than the load", value, new long[] {47, 20}, 51, 1);
        rates(cases, "borders are times one: a value with a unit", new long[] {5, 1, 3},
                new long[] {2500, 1}, 50, 1);
        rates(cases, "borders are times one: a little more", new long[] {5, 1, 3},
                new long[] {2501, 1}, 50, 0);
    }

    private static void numbers(Cases cases) {
        long[] hundred = {100, 1, 0};
        rates(cases, "percent 1, the least one, is taken", hundred, new long[] {1, 1}, 1, 1);
        rates(cases, "a little more than 1 percent", hundred, new long[] {1_000_001, BOTTOM}, 1, 0);
        rates(cases, "percent 100, the greatest one, is taken", hundred, new long[] {100, 1}, 100, 1);
        rates(cases, "a little more than 100 percent", hundred, new long[] {100_000_001, BOTTOM}, 100, 0);
        rates(cases, "all of it at 99 percent", hundred, new long[] {100, 1}, 99, 0);
        rates(cases, "a 0, the least one, is taken", hundred, new long[] {0, 1}, 1, 1);
        rates(cases, "a 1,000,000,000, the greatest one, is taken", new long[] {TOP, 1, 0},
                new long[] {TOP, 1}, 100, 1);
        rates(cases, "b 1, the least one, is taken", hundred, new long[] {50, 1}, 50, 1);
        rates(cases, "b 1,000,000, the greatest one, is taken", hundred, new long[] {50 * BOTTOM, BOTTOM}, 50, 1);
    }

    private static void nothing(Cases cases) {
        long[] zero = {0, 7, 9};
        rates(cases, "no load on a value of 0", zero, new long[] {0, 1}, 1, 1);
        rates(cases, "the least load on a value of 0", zero, new long[] {1, BOTTOM}, 100, 0);
        rates(cases, "no load on the least value", new long[] {1, BOTTOM, -9}, new long[] {0, BOTTOM}, 1, 1);
    }

    private static void ends(Cases cases) {
        rates(cases, "the greatest load on the greatest value", new long[] {TOP, 1, 9}, new long[] {TOP, 1}, 1, 1);
        rates(cases, "the least load on the least value", new long[] {1, BOTTOM, -9},
                new long[] {1, BOTTOM}, 100, 0);
        rates(cases, "the greatest load is 1 percent", new long[] {TOP, 1, 2}, new long[] {TOP, 1}, 1, 1);
        rates(cases, "the greatest load is a little above 1 percent", new long[] {TOP - 1, 1, 2},
                new long[] {TOP, 1}, 1, 0);
        rates(cases, "the least load is 1 percent", new long[] {1, 10_000, 0}, new long[] {1, BOTTOM}, 1, 1);
        rates(cases, "the least load is a little above 1 percent", new long[] {99, BOTTOM, 0},
                new long[] {1, BOTTOM}, 1, 0);
        rates(cases, "the nearest load above the value", new long[] {999_998_999, 999_999, 0},
                new long[] {999_999_999, BOTTOM}, 100, 0);
        rates(cases, "the nearest load below the value", new long[] {999_999_999, BOTTOM, 0},
                new long[] {999_998_999, 999_999}, 100, 1);
    }
}
