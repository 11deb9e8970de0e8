/** Promise 14: stock. */
final class Promise14StockTest {
    public static void main(String[] args) {
        Cases cases = new Cases("promise 14, stock");
        cases.parts((book, part) -> book.stock(part, 5));
        cases.outside("stock", 0, 20_000, Check.ARGUMENT, (book, n) -> book.stock(0, n));
        cases.refuses("no such part with a wrong stock", Check.INDEX, book -> book.stock(3, -1));
        numbers(cases);
        wasAnother(cases);
        others(cases);
        cases.end();
    }

    private static void numbers(Cases cases) {
        cases.holds("stock 0, the least one, is taken", () -> {
            PartBook book = Books.stocked(5);
            Check.is("another one", book.stock(0, 0));
            Check.same("best", book.best(0, 1), -1);
        });
        cases.holds("stock 20,000, the greatest one, is taken", () -> {
            PartBook book = Books.stocked(5);
            Check.is("another one", book.stock(0, 20_000));
            Check.same("best", book.best(0, 10_000), 10_000);
            book.rule();
            book.life(0, 0, 1);
            Check.same("buy", book.buy(0, 0, 10_000, 0), 10_000);
            Check.same("buy the rest", book.buy(0, 0, 10_000, 0), 10_000);
            Check.same("buy more", book.buy(0, 0, 1, 0), -1);
        });
        cases.holds("as many as the stock can be had", () -> {
            Check.same("best of 7", Books.stocked(7).best(0, 7), 7);
        });
        cases.holds("one more than the stock can't", () -> {
            Check.same("best of 8", Books.stocked(7).best(0, 8), -1);
        });
        cases.holds("a stock of 1 is enough for 1", () -> {
            Check.same("best of 1", Books.stocked(1).best(0, 1), 1);
        });
    }

    private static void wasAnother(Cases cases) {
        cases.holds("0 is no other stock at first", () -> Check.not("other", Books.of(0).stock(0, 0)));
        cases.holds("it is another stock, then the same, then another again", () -> {
            PartBook book = Books.of(0);
            Check.is("1", book.stock(0, 1));
            Check.not("1 again", book.stock(0, 1));
            Check.is("20,000", book.stock(0, 20_000));
            Check.not("20,000 again", book.stock(0, 20_000));
            Check.is("0", book.stock(0, 0));
            Check.not("0 again", book.stock(0, 0));
        });
        cases.holds("it is another stock than what buy() left", () -> {
            PartBook book = Books.stocked(10);
            book.life(0, 0, 1);
            book.buy(0, 0, 4, 0);
            Check.not("6", book.stock(0, 6));
            Check.is("10", book.stock(0, 10));
        });
    }

    private static void others(Cases cases) {
        cases.holds("the other parts keep their stock", () -> {
            PartBook book = Books.full();
            book.stock(17, 3);
            for (int part = 0; part < 40; part++) {
                Check.same("part " + part, book.stock(part, 0) ? 1 : 0, part == 17 ? 1 : 0);
            }
        });
    }
}
