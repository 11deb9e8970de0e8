/** Promise 8: alternates. */
final class Promise08AlternatesTest {
    private static final long TOP = 1_000_000_000L;
    private static final long BOTTOM = 1_000_000L;

    public static void main(String[] args) {
        Cases cases = new Cases("promise 8, alternates");
        cases.parts((book, part) -> book.alternates(part, 0));
        cases.rules((book, rule) -> book.alternates(0, rule));
        cases.refuses("neither a part nor a rule", Check.INDEX, book -> book.alternates(3, 2));
        howMany(cases);
        borders(cases);
        nearest(cases);
        missing(cases);
        eachName(cases);
        order(cases);
        cases.end();
    }

    private static void howMany(Cases cases) {
        cases.holds("a part alone has none", () -> {
            PartBook book = Books.of(0);
            Check.finds("alternates", book, book.alternates(0, 0));
        });
        cases.holds("a part is no alternate of itself", () -> {
            PartBook book = Books.of(0, 0, 0);
            for (int part = 0; part < 3; part++) {
                book.value(part, 0, 1, 1, 0);
            }
            book.ask(0, 0, 0);
            Check.finds("of part 0", book, book.alternates(0, 0), 1, 2);
            Check.finds("of part 1", book, book.alternates(1, 0), 0, 2);
            Check.finds("of part 2", book, book.alternates(2, 0), 0, 1);
        });
        cases.holds("in a full book a part has 39", () -> {
            PartBook book = Books.full();
            Check.same("of the first", book.alternates(0, 9), 39);
            Check.same("the last of them", book.found(38), 39);
            Check.same("of the last", book.alternates(39, 9), 39);
            Check.same("the last of them", book.found(38), 38);
        });
        cases.holds("fewer than before are all that is found", () -> {
            PartBook book = Books.of(0, 0, 0);
            book.rule();
            book.ask(1, 0, 0);
            Check.finds("two", book, book.alternates(0, 0), 1, 2);
            Check.finds("none", book, book.alternates(0, 1));
        });
    }

    /** Whether part 1 with one value is an alternate of part 0 with another one. */
    private static void meets(Cases cases, String name, int how, long[] own, long[] asked, boolean due) {
        cases.holds(name, () -> {
            PartBook book = Books.of(0, 0);
            book.value(0, 3, asked[0], asked[1], (int) asked[2]);
            book.value(1, 3, own[0], own[1], (int) own[2]);
            book.ask(0, 3, how);
            Check.same("alternates", book.alternates(0, 0), due ? 1 : 0);
        });
    }

    private static void borders(Cases cases) {
        long[] half = {1, 2, 0};
        long[] five = {5, 1, -1};
        long[] less = {499_999, BOTTOM, 0};
        long[] more = {500_001, BOTTOM, 0};
        meets(cases, "EQUAL takes the same value in other terms", 0, five, half, true);
        meets(cases, "EQUAL does not take a little less", 0, less, half, false);
        meets(cases, "EQUAL does not take a little more", 0, more, half, false);
        meets(cases, "AT LEAST takes the same value", 1, five, half, true);
        meets(cases, "AT LEAST does not take a little less", 1, less, half, false);
        meets(cases, "AT LEAST takes a little more", 1, more, half, true);
        meets(cases, "AT MOST takes the same value", 2, five, half, true);
        meets(cases, "AT MOST takes a little less", 2, less, half, true);
        meets(cases, "AT MOST does not take a little more", 2, more, half, false);
    }

    /** The order is exact where a product of the numbers passes the range of a long. */
    private static void nearest(Cases cases) {
        ordered(cases, "the nearest values with unit 9", new long[] {999_998_999, 999_999, 9},
                new long[] {999_999_999, BOTTOM, 9});
        ordered(cases, "the nearest values with unit -9", new long[] {999_998_999, 999_999, -9},
                new long[] {999_999_999, BOTTOM, -9});
        ordered(cases, "the greatest value", new long[] {TOP - 1, 1, 9}, new long[] {TOP, 1, 9});
        ordered(cases, "the least value above 0", new long[] {1, BOTTOM, -9}, new long[] {1, 999_999, -9});
        ordered(cases, "0 and the least value above 0", new long[] {0, 1, 9}, new long[] {1, BOTTOM, -9});
        ordered(cases, "the least and the greatest value", new long[] {1, BOTTOM, -9}, new long[] {TOP, 1, 9});
        meets(cases, "0 is equal to 0 of another unit", 0, new long[] {0, 1, 9}, new long[] {0, BOTTOM, -9}, true);
        meets(cases, "the greatest value is equal to itself", 0, new long[] {TOP, 1, 9}, new long[] {TOP, 1, 9}, true);
    }

    private static void ordered(Cases cases, String name, long[] less, long[] more) {
        meets(cases, name + ": EQUAL", 0, less, more, false);
        meets(cases, name + ": AT LEAST of the less", 1, less, more, false);
        meets(cases, name + ": AT LEAST of the more", 1, more, less, true);
        meets(cases, name + ": AT MOST of the less", 2, less, more, true);
        meets(cases, name + ": AT MOST of the more", 2, more, less, false);
    }

    private static void missing(Cases cases) {
        for (int asked = 0; asked <= 2; asked++) {
            int how = asked;
            cases.holds("one without a value is none, how " + how, () -> {
                PartBook book = Books.of(0, 0, 0);
                book.value(0, 0, 0, 1, 0);
                book.value(2, 0, 0, 1, 0);
                book.ask(0, 0, how);
                Check.finds("alternates", book, book.alternates(0, 0), 2);
            });
            cases.holds("a part without a value has none, how " + how, () -> {
                PartBook book = Books.of(0, 0, 0);
                book.value(1, 0, 0, 1, 0);
                book.value(2, 0, TOP, 1, 9);
                book.ask(0, 0, how);
                Check.finds("alternates", book, book.alternates(0, 0));
            });
            cases.holds("neither has a value, how " + how, () -> {
                PartBook book = Books.of(0, 0);
                book.ask(0, 0, how);
                Check.finds("alternates", book, book.alternates(0, 0));
            });
        }
        cases.holds("values of names that the rule does not ask for do not count", () -> {
            PartBook book = Books.of(0, 0, 0);
            book.value(0, 1, 1, 1, 0);
            book.value(1, 1, 2, 1, 0);
            Check.finds("alternates", book, book.alternates(0, 0), 1, 2);
        });
    }

    private static void eachName(Cases cases) {
        for (int n = 0; n < 12; n++) {
            int name = n;
            cases.holds("of 12 names asked for, name " + name + " alone is otherwise", () -> {
                PartBook book = Books.of(0, 0);
                for (int i = 0; i < 12; i++) {
                    book.value(0, i, 5, 1, 0);
                    book.value(1, i, 5, 1, 0);
                    book.ask(0, i, i % 3);
                }
                Check.finds("alternates", book, book.alternates(0, 0), 1);
                book.value(1, name, name % 3 == 1 ? 4 : 6, 1, 0);
                Check.finds("alternates then", book, book.alternates(0, 0));
            });
        }
    }

    private static void order(Cases cases) {
        cases.holds("of the same place by numbers", () -> {
            PartBook book = Books.of(9, 3, 12, 0);
            Check.finds("alternates", book, book.alternates(1, 0), 0, 2, 3);
        });
        cases.holds("by places, whatever the numbers and the values", () -> {
            PartBook book = Books.of(0, 1, 2, 3);
            book.maker(1, 99);
            book.maker(3, 0);
            for (int part = 0; part < 4; part++) {
                book.value(part, 0, 5 + part, 1, 0);
            }
            book.ask(0, 0, 1);
            Check.finds("alternates", book, book.alternates(0, 0), 3, 2, 1);
        });
        cases.holds("by places, then by numbers", () -> {
            PartBook book = Books.of(2, 1, 0, 1, 2);
            book.maker(2, 10);
            book.maker(1, 20);
            book.maker(0, 10);
            Check.finds("alternates", book, book.alternates(3, 0), 0, 2, 4, 1);
        });
        cases.holds("a full book in turned order", () -> {
            PartBook book = new PartBook();
            for (int i = 0; i < 40; i++) {
                book.part(i < 16 ? i : 15);
            }
            for (int maker = 0; maker < 16; maker++) {
                book.maker(maker, 99 - maker);
            }
            book.rule();
            Check.same("alternates", book.alternates(20, 0), 39);
            Check.same("the first", book.found(0), 15);
            Check.same("the fifth", book.found(4), 19);
            Check.same("the sixth", book.found(5), 21);
            Check.same("the last but one", book.found(37), 1);
            Check.same("the last", book.found(38), 0);
        });
    }
}
