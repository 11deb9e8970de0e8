/** Promises 9 and 10: search, found. */
final class SearchTest {
    private static final long TOP = 1_000_000_000L;
    private static final long BOTTOM = 1_000_000L;

    public static void main(String[] args) {
        borders();
        order();
        manyParts();
        extremes();
        wrongSearches();
        Check.end();
    }

    private static PartBook book(long[]... values) {
        PartBook book = new PartBook();
        for (int part = 0; part < values.length; part++) {
            book.part(part % 16);
            if (values[part] != null) {
                book.value(part, 4, values[part][0], values[part][1], (int) values[part][2]);
            }
        }
        return book;
    }

    private static void borders() {
        PartBook book = book(new long[] {1, 3, 0}, new long[] {1, 2, 0}, new long[] {2, 3, 0}, null);
        Check.finds("borders belong", book, book.search(4, 1, 3, 2, 3), 0, 1, 2);
        Check.finds("borders in other terms", book, book.search(4, 2, 6, 4, 6), 0, 1, 2);
        Check.finds("a little above the lower one", book, book.search(4, 333_334, 1_000_000, 2, 3), 1, 2);
        Check.finds("a little below the upper one", book, book.search(4, 1, 3, 666_666, 1_000_000), 0, 1);
        Check.finds("one point", book, book.search(4, 1, 2, 5, 10), 1);
        Check.finds("turned round", book, book.search(4, 2, 3, 1, 3));
        Check.finds("another name", book, book.search(5, 0, 1, TOP, 1));
    }

    private static void order() {
        PartBook book = book(new long[] {2, 1, 0}, new long[] {1, 1, 0}, new long[] {1, 10, 1},
                new long[] {20, 10, 0}, new long[] {0, 1, 0}, new long[] {1000, 1, -3});
        Check.finds("by values, then numbers", book, book.search(4, 0, 1, 2, 1), 4, 1, 2, 5, 0, 3);
        book.maker(3, 49);
        book.maker(5, 0);
        book.maker(4, 99);
        Check.finds("by values, then places", book, book.search(4, 0, 1, 2, 1), 4, 5, 1, 2, 3, 0);
    }

    private static void manyParts() {
        PartBook book = new PartBook();
        for (int part = 0; part < 40; part++) {
            book.part(0);
            book.value(part, 0, 40 - part, 7, 0);
        }
        Check.same("all", book.search(0, 0, 1, 40, 7), 40);
        for (int k = 0; k < 40; k++) {
            Check.same("turned order", book.found(k), 39 - k);
        }
        Check.same("behind all", book.found(40), -1);
    }

    private static void extremes() {
        PartBook book = book(new long[] {TOP, 1, 9}, new long[] {1, BOTTOM, -9}, new long[] {TOP, 1, 0},
                new long[] {1, BOTTOM, 0}, new long[] {0, 1, 0});
        Check.finds("all but the greatest", book, book.search(4, 0, 1, TOP, 1), 4, 1, 3, 2);
        Check.finds("from the least border", book, book.search(4, 1, BOTTOM, TOP, 1), 3, 2);
        Check.finds("nothing alone", book, book.search(4, 0, BOTTOM, 0, 1), 4);
    }

    private static void wrongSearches() {
        PartBook book = new PartBook();
        Check.refuses("name -1", Check.INDEX, () -> book.search(-1, 0, 1, 0, 1));
        Check.refuses("name 12", Check.INDEX, () -> book.search(12, 0, 1, 0, 1));
        Check.refuses("name and number", Check.INDEX, () -> book.search(12, 0, 0, 0, 1));
        Check.refuses("a -1", Check.ARGUMENT, () -> book.search(0, -1, 1, 0, 1));
        Check.refuses("a too great", Check.ARGUMENT, () -> book.search(0, TOP + 1, 1, 0, 1));
        Check.refuses("b 0", Check.ARGUMENT, () -> book.search(0, 0, 0, 0, 1));
        Check.refuses("b too great", Check.ARGUMENT, () -> book.search(0, 0, BOTTOM + 1, 0, 1));
        Check.refuses("c -1", Check.ARGUMENT, () -> book.search(0, 0, 1, -1, 1));
        Check.refuses("c too great", Check.ARGUMENT, () -> book.search(0, 0, 1, TOP + 1, 1));
        Check.refuses("d 0", Check.ARGUMENT, () -> book.search(0, 0, 1, 0, 0));
        Check.refuses("d too great", Check.ARGUMENT, () -> book.search(0, 0, 1, 0, BOTTOM + 1));
        Check.same("the greatest borders", book.search(11, TOP, BOTTOM, TOP, BOTTOM), 0);
    }
}
