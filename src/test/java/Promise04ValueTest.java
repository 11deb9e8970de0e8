/** Promise 4: value. */
final class Promise04ValueTest {
    private static final long TOP = 1_000_000_000L;
    private static final long BOTTOM = 1_000_000L;

    public static void main(String[] args) {
        Cases cases = new Cases("promise 4, value");
        cases.parts((book, part) -> book.value(part, 0, 7, 9, 1));
        cases.names((book, name) -> book.value(0, name, 7, 9, 1));
        cases.outsideLong("above", 0, TOP, (book, above) -> book.value(0, 0, above, 9, 1));
        cases.outsideLong("below", 1, BOTTOM, (book, below) -> book.value(0, 0, 7, below, 1));
        cases.refuses("below -1", Check.ARGUMENT, book -> book.value(0, 0, 7, -1, 1));
        cases.outside("unit", -9, 9, Check.ARGUMENT, (book, unit) -> book.value(0, 0, 7, 9, unit));
        cases.refuses("no such part with a wrong number", Check.INDEX, book -> book.value(3, 0, 1, 0, 0));
        cases.refuses("no such name with a wrong number", Check.INDEX, book -> book.value(0, 12, -1, 1, 0));
        numbers(cases);
        wasAnother(cases);
        others(cases);
        cases.end();
    }

    private static void tells(Cases cases, String name, long[] value, long above, long below) {
        cases.holds(name, () -> {
            PartBook book = Books.of(0);
            Check.is("it was none", book.value(0, 5, value[0], value[1], (int) value[2]));
            Check.same("above", book.told(0, 5, 0), above);
            Check.same("below", book.told(0, 5, 1), below);
        });
    }

    private static void numbers(Cases cases) {
        tells(cases, "above 0, the least one, is taken", new long[] {0, 1, 0}, 0, 1);
        tells(cases, "above 1,000,000,000, the greatest one, is taken", new long[] {TOP, 1, 0}, TOP, 1);
        tells(cases, "below 1, the least one, is taken", new long[] {7, 1, 0}, 7, 1);
        tells(cases, "below 1,000,000, the greatest one, is taken", new long[] {7, BOTTOM, 0}, 7, BOTTOM);
        tells(cases, "unit -9, the least one, is taken", new long[] {7, 1, -9}, 7, TOP);
        tells(cases, "unit 9, the greatest one, is taken", new long[] {7, 1, 9}, 7 * TOP, 1);
        tells(cases, "the greatest value is exact", new long[] {TOP, 1, 9}, TOP * TOP, 1);
        tells(cases, "the least value above 0 is exact", new long[] {1, BOTTOM, -9}, 1, BOTTOM * TOP);
        tells(cases, "a value with long digits above is exact", new long[] {999_999_937, 7, 9},
                999_999_937_000_000_000L, 7);
        tells(cases, "a value with long digits below is exact", new long[] {999_999_999, 999_998, -9},
                999_999_999L, 999_998_000_000_000L);
    }

    private static void another(Cases cases, String name, long[] first, long[] then, boolean due) {
        cases.holds(name, () -> {
            PartBook book = Books.of(0);
            book.value(0, 0, first[0], first[1], (int) first[2]);
            boolean got = book.value(0, 0, then[0], then[1], (int) then[2]);
            Check.same("another one", got ? 1 : 0, due ? 1 : 0);
            Check.not("another one than the latest", book.value(0, 0, then[0], then[1], (int) then[2]));
        });
    }

    private static void wasAnother(Cases cases) {
        cases.holds("it is another one where there was none, be it 0", () -> {
            PartBook book = Books.of(0);
            for (int name = 0; name < 12; name++) {
                Check.is("name " + name, book.value(0, name, 0, 1, 0));
            }
        });
        another(cases, "the same numbers are no other value", new long[] {3, 7, 2}, new long[] {3, 7, 2}, false);
        another(cases, "the same value by another unit", new long[] {1, 2, 0}, new long[] {5, 1, -1}, false);
        another(cases, "the same value in higher terms", new long[] {1, 2, 0},
                new long[] {500_000, BOTTOM, 0}, false);
        another(cases, "the same greatest terms", new long[] {TOP, BOTTOM, -9}, new long[] {1, BOTTOM, 0}, false);
        another(cases, "0 is 0 in any terms", new long[] {0, 1, 0}, new long[] {0, BOTTOM, -9}, false);
        another(cases, "the same above, another below", new long[] {1, 2, 0}, new long[] {1, 3, 0}, true);
        another(cases, "another above, the same below", new long[] {1, 3, 0}, new long[] {2, 3, 0}, true);
        another(cases, "another unit alone", new long[] {1, 3, 0}, new long[] {1, 3, 1}, true);
        another(cases, "the greatest value and the one next to it", new long[] {TOP, 1, 9},
                new long[] {TOP - 1, 1, 9}, true);
        another(cases, "values as near to each other as can be", new long[] {999_999_999, BOTTOM, 9},
                new long[] {999_998_999, 999_999, 9}, true);
        another(cases, "from a value to 0", new long[] {1, BOTTOM, -9}, new long[] {0, 1, 0}, true);
    }

    private static void others(Cases cases) {
        cases.holds("each part has its own value of each of the 12 names", () -> {
            PartBook book = Books.of(0, 0);
            for (int name = 0; name < 12; name++) {
                book.value(0, name, 100 + name, 1, 0);
                book.value(1, name, 1, 200 + name, 0);
            }
            for (int name = 0; name < 12; name++) {
                Check.same("above of part 0", book.told(0, name, 0), 100 + name);
                Check.same("below of part 0", book.told(0, name, 1), 1);
                Check.same("above of part 1", book.told(1, name, 0), 1);
                Check.same("below of part 1", book.told(1, name, 1), 200 + name);
            }
        });
        cases.holds("the other names still have none", () -> {
            PartBook book = Books.of(0, 0);
            book.value(0, 6, 1, 1, 0);
            for (int name = 0; name < 12; name++) {
                Check.same("name " + name, book.told(0, name, 1), name == 6 ? 1 : -1);
                Check.same("the other part's name " + name, book.told(1, name, 1), -1);
            }
        });
    }
}
