/** Promise 9: search. */
final class Promise09SearchTest {
    private static final long TOP = 1_000_000_000L;
    private static final long BOTTOM = 1_000_000L;

    public static void main(String[] args) {
        Cases cases = new Cases("promise 9, search");
        cases.names((book, name) -> book.search(name, 0, 1, 1, 1));
        cases.outsideLong("a", 0, TOP, (book, a) -> book.search(0, a, 1, 1, 1));
        cases.outsideLong("b", 1, BOTTOM, (book, b) -> book.search(0, 0, b, 1, 1));
        cases.outsideLong("c", 0, TOP, (book, c) -> book.search(0, 0, 1, c, 1));
        cases.outsideLong("d", 1, BOTTOM, (book, d) -> book.search(0, 0, 1, 1, d));
        cases.refuses("no such name with a wrong number", Check.INDEX, book -> book.search(12, 0, 0, 0, 1));
        numbers(cases);
        empty(cases);
        borders(cases);
        values(cases);
        order(cases);
        cases.end();
    }

    /** One part for each value of name 4; none where there is null. */
    private static PartBook of(long[]... values) {
        PartBook book = new PartBook();
        for (int part = 0; part < values.length; part++) {
            book.part(part % 16);
            if (values[part] != null) {
                book.value(part, 4, values[part][0], values[part][1], (int) values[part][2]);
            }
        }
        return book;
    }

    private static void finds(Cases cases, String name, long[] value, long[] span, boolean due) {
        cases.holds(name, () -> {
            PartBook book = of(value);
            Check.same("count", book.search(4, span[0], span[1], span[2], span[3]), due ? 1 : 0);
            Check.same("found(0)", book.found(0), due ? 0 : -1);
        });
    }

    private static void numbers(Cases cases) {
        long[] top = {TOP, 1, 0};
        long[] thousand = {1000, 1, 0};
        finds(cases, "a 0, the least one, is taken", new long[] {0, 1, 0}, new long[] {0, 1, 1, 1}, true);
        finds(cases, "a 1,000,000,000, the greatest one, is taken", top, new long[] {TOP, 1, TOP, 1}, true);
        finds(cases, "b 1, the least one, is taken", thousand, new long[] {1000, 1, TOP, 1}, true);
        finds(cases, "b 1,000,000, the greatest one, is taken", thousand, new long[] {TOP, BOTTOM, TOP, 1}, true);
        finds(cases, "c 0, the least one, is taken", new long[] {0, 1, 0}, new long[] {0, 1, 0, 1}, true);
        finds(cases, "c 1,000,000,000, the greatest one, is taken", top, new long[] {0, 1, TOP, 1}, true);
        finds(cases, "d 1, the least one, is taken", thousand, new long[] {0, 1, 1000, 1}, true);
        finds(cases, "d 1,000,000, the greatest one, is taken", thousand, new long[] {0, 1, TOP, BOTTOM}, true);
    }

    private static void empty(Cases cases) {
        cases.holds("an empty book has none", () -> {
            PartBook book = new PartBook();
            Check.finds("search", book, book.search(0, 0, 1, TOP, 1));
        });
        cases.holds("parts without values are not found, not even from 0", () -> {
            PartBook book = of(null, null);
            Check.finds("search", book, book.search(4, 0, 1, TOP, 1));
            Check.finds("of 0", book, book.search(4, 0, 1, 0, 1));
        });
        cases.holds("values of other names are not found", () -> {
            PartBook book = of(new long[] {1, 1, 0});
            for (int name = 0; name < 12; name++) {
                Check.same("name " + name, book.search(name, 0, 1, TOP, 1), name == 4 ? 1 : 0);
            }
        });
        cases.holds("a search that finds none leaves nothing found", () -> {
            PartBook book = of(new long[] {1, 1, 0}, new long[] {2, 1, 0});
            Check.finds("both", book, book.search(4, 1, 1, 2, 1), 0, 1);
            Check.finds("none", book, book.search(4, 3, 1, 4, 1));
        });
    }

    private static void borders(Cases cases) {
        long[] third = {1, 3, 0};
        finds(cases, "the lower border belongs to it", third, new long[] {1, 3, 1, 1}, true);
        finds(cases, "the lower border in other terms belongs to it", third, new long[] {2, 6, 1, 1}, true);
        finds(cases, "a little below the lower border does not", third,
                new long[] {333_334, BOTTOM, 1, 1}, false);
        finds(cases, "a little above the lower border does", third, new long[] {333_333, BOTTOM, 1, 1}, true);
        finds(cases, "the upper border belongs to it", third, new long[] {0, 1, 1, 3}, true);
        finds(cases, "the upper border in other terms belongs to it", third, new long[] {0, 1, 2, 6}, true);
        finds(cases, "a little above the upper border does not", third,
                new long[] {0, 1, 333_333, BOTTOM}, false);
        finds(cases, "a little below the upper border does", third, new long[] {0, 1, 333_334, BOTTOM}, true);
        finds(cases, "from a value to the same value", third, new long[] {1, 3, 2, 6}, true);
        finds(cases, "from the upper border to the lower one is nothing", third, new long[] {1, 1, 1, 4}, false);
        finds(cases, "the nearest value below the lower border", new long[] {999_998_999, 999_999, 0},
                new long[] {999_999_999, BOTTOM, TOP, 1}, false);
        finds(cases, "the nearest value above the upper border", new long[] {999_999_999, BOTTOM, 0},
                new long[] {0, 1, 999_998_999, 999_999}, false);
    }

    private static void values(Cases cases) {
        finds(cases, "borders are times one, not times a value's unit", new long[] {5, 1, 3},
                new long[] {5, 1, 5, 1}, false);
        finds(cases, "a value with a unit is found by what it is", new long[] {5, 1, 3},
                new long[] {5000, 1, 5000, 1}, true);
        finds(cases, "0 is found from 0 to 0", new long[] {0, 7, 9}, new long[] {0, BOTTOM, 0, 1}, true);
        finds(cases, "the least value above 0 is found from 0 on", new long[] {1, BOTTOM, -9},
                new long[] {0, 1, 1, BOTTOM}, true);
        finds(cases, "the least value above 0 is below any other border", new long[] {1, BOTTOM, -9},
                new long[] {1, BOTTOM, TOP, 1}, false);
        finds(cases, "the least value above 0 is not 0", new long[] {1, BOTTOM, -9},
                new long[] {0, 1, 0, 1}, false);
        finds(cases, "the greatest value is above any border", new long[] {TOP, 1, 9},
                new long[] {0, 1, TOP, 1}, false);
        finds(cases, "the least value above the greatest border is not found", new long[] {TOP, 999_999, 6},
                new long[] {0, 1, TOP, 1}, false);
    }

    private static void order(Cases cases) {
        cases.holds("by their values", () -> {
            PartBook book = of(new long[] {2, 1, 0}, new long[] {1, 3, 0}, new long[] {1, 2, 0}, new long[] {0, 1, 0});
            Check.finds("search", book, book.search(4, 0, 1, 2, 1), 3, 1, 2, 0);
        });
        cases.holds("by their values, whatever the places", () -> {
            PartBook book = of(new long[] {2, 1, 0}, new long[] {1, 1, 0});
            book.maker(0, 0);
            book.maker(1, 99);
            Check.finds("search", book, book.search(4, 0, 1, 2, 1), 1, 0);
        });
        cases.holds("of the same value by places", () -> {
            PartBook book = of(new long[] {1, 1, 0}, new long[] {1, 10, 1}, new long[] {1000, 1, -3});
            book.maker(0, 51);
            book.maker(2, 49);
            Check.finds("search", book, book.search(4, 1, 1, 1, 1), 2, 1, 0);
        });
        cases.holds("of the same value and place by numbers", () -> {
            PartBook book = of(new long[] {3, 3, 0}, new long[] {0, 1, 0}, new long[] {1, 1, 0}, new long[] {2, 2, 0});
            Check.finds("search", book, book.search(4, 0, 1, 1, 1), 1, 0, 2, 3);
        });
        cases.holds("the nearest values stand in their order", () -> {
            PartBook book = of(new long[] {999_999_999, BOTTOM, 0}, new long[] {999_998_999, 999_999, 0});
            Check.finds("search", book, book.search(4, 0, 1, TOP, 1), 1, 0);
        });
        cases.holds("all 40 of a full book, in turned order", () -> {
            PartBook book = new PartBook();
            for (int part = 0; part < 40; part++) {
                book.part(0);
                book.value(part, 0, 40 - part, 7, 0);
            }
            Check.same("count", book.search(0, 1, 7, 40, 7), 40);
            for (int k = 0; k < 40; k++) {
                Check.same("found(" + k + ")", book.found(k), 39 - k);
            }
        });
    }
}
