/** Promise 11: price. */
final class Promise11PriceTest {
    public static void main(String[] args) {
        Cases cases = new Cases("promise 11, price");
        cases.parts((book, part) -> book.price(part, 2, 3, 0));
        cases.outside("currency", 0, 3, Check.INDEX, (book, currency) -> book.price(0, 1, 3, currency));
        cases.outside("from", 1, 10_000, Check.ARGUMENT, (book, from) -> book.price(0, from, 3, 0));
        cases.outsideLong("cents", 1, 1_000_000, (book, cents) -> book.price(0, 1, cents, 0));
        cases.refuses("from -1", Check.ARGUMENT, book -> book.price(0, -1, 3, 0));
        cases.refuses("no such part with a wrong number", Check.INDEX, book -> book.price(3, 0, 1, 0));
        cases.refuses("no such currency with a wrong number", Check.INDEX, book -> book.price(0, 1, 0, 4));
        numbers(cases);
        takesThePlace(cases);
        eight(cases);
        ninth(cases);
        others(cases);
        cases.end();
    }

    /** One part with a stock that is enough for any quantity, and no price. */
    private static PartBook unpriced() {
        PartBook book = Books.of(0);
        book.stock(0, 20_000);
        return book;
    }

    private static void costs(PartBook book, int quantity, int total, long cost) {
        Check.same("best of " + quantity, book.best(0, quantity), total);
        Check.same("cost of " + quantity, book.cost(0, quantity), cost);
    }

    private static void numbers(Cases cases) {
        cases.holds("from 1, the least one, is taken", () -> {
            PartBook book = unpriced();
            Check.is("it", book.price(0, 1, 5, 0));
            costs(book, 1, 1, 5000);
        });
        cases.holds("from 10,000, the greatest one, is taken", () -> {
            PartBook book = unpriced();
            Check.is("it", book.price(0, 10_000, 5, 0));
            costs(book, 1, 10_000, 50_000_000);
        });
        cases.holds("1 cent, the least one, is taken", () -> {
            PartBook book = unpriced();
            Check.is("it", book.price(0, 1, 1, 0));
            costs(book, 1, 1, 1000);
        });
        cases.holds("1,000,000 cents, the most, are taken", () -> {
            PartBook book = unpriced();
            Check.is("it", book.price(0, 1, 1_000_000, 0));
            costs(book, 10_000, 10_000, 10_000_000_000_000L);
        });
        for (int c = 0; c < 4; c++) {
            int currency = c;
            cases.holds("currency " + currency + " is taken", () -> {
                PartBook book = unpriced();
                book.rate(currency, 7);
                Check.is("it", book.price(0, 1, 3, currency));
                costs(book, 2, 2, 42);
            });
        }
    }

    private static void takesThePlace(Cases cases) {
        cases.holds("one that is there already is false", () -> {
            PartBook book = unpriced();
            book.price(0, 9, 5, 2);
            Check.not("it", book.price(0, 9, 5, 2));
            costs(book, 1, 9, 45_000);
        });
        cases.holds("other cents from there on take the place", () -> {
            PartBook book = unpriced();
            book.price(0, 9, 5, 2);
            Check.is("it", book.price(0, 9, 6, 2));
            costs(book, 1, 9, 54_000);
        });
        cases.holds("another currency from there on takes the place", () -> {
            PartBook book = unpriced();
            book.rate(1, 10);
            book.price(0, 9, 5, 2);
            Check.is("it", book.price(0, 9, 5, 1));
            costs(book, 1, 9, 450);
        });
        cases.holds("the same cents from another beginning on are another price", () -> {
            PartBook book = unpriced();
            book.price(0, 9, 5, 2);
            Check.is("it", book.price(0, 8, 5, 2));
            costs(book, 1, 8, 40_000);
        });
        cases.holds("what was does not count among the eight", () -> {
            PartBook book = unpriced();
            for (int cents = 1; cents <= 9; cents++) {
                Check.is("cents " + cents, book.price(0, 500, cents, 0));
            }
            for (int i = 1; i <= 7; i++) {
                Check.is("price " + i, book.price(0, 500 + i, 1, 0));
            }
            Check.not("the ninth", book.price(0, 600, 1, 0));
        });
    }

    /** From 100, 200, .. 800 on 10, 20, .. 80 cents, told in no order. */
    private static PartBook withEight() {
        PartBook book = unpriced();
        int[] order = {5, 1, 8, 3, 7, 2, 6, 4};
        for (int i : order) {
            book.price(0, i * 100, i * 10, 0);
        }
        return book;
    }

    /** Prices rise, so that no more than the quantity is best, but for the first beginning. */
    private static void costsOfEight(PartBook book) {
        costs(book, 1, 100, 1_000_000);
        costs(book, 99, 100, 1_000_000);
        for (int i = 1; i <= 8; i++) {
            costs(book, i * 100, i * 100, i * 100L * i * 10_000);
            costs(book, i * 100 + 99, i * 100 + 99, (i * 100L + 99) * i * 10_000);
        }
        costs(book, 10_000, 10_000, 10_000 * 80_000L);
    }

    private static void eight(Cases cases) {
        cases.holds("the eighth price is taken", () -> {
            PartBook book = unpriced();
            for (int i = 1; i <= 8; i++) {
                Check.is("price " + i, book.price(0, i, 9 - i, i % 4));
            }
        });
        cases.holds("eight prices count, each from its beginning on", () -> costsOfEight(withEight()));
        cases.holds("one of eight told so again is false", () -> {
            PartBook book = withEight();
            for (int i = 1; i <= 8; i++) {
                Check.not("price " + i, book.price(0, i * 100, i * 10, 0));
            }
            costsOfEight(book);
        });
        cases.holds("each of eight may be told anew", () -> {
            PartBook book = withEight();
            for (int i = 1; i <= 8; i++) {
                Check.is("another currency of price " + i, book.price(0, i * 100, i * 10, 3));
            }
            costsOfEight(book);
            book.rate(3, 1);
            costs(book, 100, 100, 1000);
            costs(book, 800, 800, 64_000);
        });
    }

    private static void ninth(Cases cases) {
        int[] beginnings = {1, 99, 101, 450, 799, 801, 10_000};
        for (int from : beginnings) {
            cases.holds("a ninth price, from " + from + " on, is false and leaves the eight", () -> {
                PartBook book = withEight();
                Check.not("it", book.price(0, from, 1, 0));
                Check.not("it again", book.price(0, from, 1, 0));
                costsOfEight(book);
            });
        }
    }

    private static void others(Cases cases) {
        cases.holds("each part has its own eight", () -> {
            PartBook book = Books.of(0, 0);
            for (int i = 1; i <= 8; i++) {
                Check.is("part 0", book.price(0, i, 5, 0));
                Check.is("part 1", book.price(1, i, 6, 0));
            }
            book.stock(1, 3);
            Check.same("cost of part 1", book.cost(1, 3), 18_000);
            Check.same("cost of part 0", book.cost(0, 3), -1);
        });
    }
}
