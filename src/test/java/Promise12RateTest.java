/** Promise 12: rate. */
final class Promise12RateTest {
    public static void main(String[] args) {
        Cases cases = new Cases("promise 12, rate");
        cases.outside("currency", 0, 3, Check.INDEX, (book, currency) -> book.rate(currency, 5));
        cases.outsideLong("rate", 1, 1_000_000, (book, rate) -> book.rate(1, rate));
        cases.refuses("rate -1", Check.ARGUMENT, book -> book.rate(1, -1));
        cases.refuses("no such currency with a wrong rate", Check.INDEX, book -> book.rate(4, 0));
        numbers(cases);
        wasAnother(cases);
        others(cases);
        cases.end();
    }

    private static PartBook priced(int currency) {
        PartBook book = Books.of(0);
        book.stock(0, 100);
        book.price(0, 1, 2, currency);
        return book;
    }

    private static void numbers(Cases cases) {
        cases.holds("rate 1, the least one, is taken", () -> {
            PartBook book = priced(2);
            Check.is("another one", book.rate(2, 1));
            Check.same("cost of 3", book.cost(0, 3), 6);
        });
        cases.holds("rate 1,000,000, the greatest one, is taken", () -> {
            PartBook book = priced(2);
            Check.is("another one", book.rate(2, 1_000_000));
            Check.same("cost of 3", book.cost(0, 3), 6_000_000);
        });
        cases.holds("the rate at first is 1,000", () -> {
            for (int currency = 0; currency < 4; currency++) {
                PartBook book = priced(currency);
                Check.same("cost of 3", book.cost(0, 3), 6000);
                Check.not("another one", book.rate(currency, 1000));
            }
        });
    }

    private static void wasAnother(Cases cases) {
        cases.holds("it is another rate, then the same, then another again", () -> {
            PartBook book = new PartBook();
            Check.is("999", book.rate(3, 999));
            Check.not("999 again", book.rate(3, 999));
            Check.is("1000", book.rate(3, 1000));
            Check.not("1000 again", book.rate(3, 1000));
        });
    }

    private static void others(Cases cases) {
        for (int c = 0; c < 4; c++) {
            int currency = c;
            cases.holds("the rate of currency " + currency + " is its own", () -> {
                PartBook book = new PartBook();
                book.rate(currency, 5);
                for (int i = 0; i < 4; i++) {
                    Check.same("currency " + i, book.rate(i, 1000) ? 1 : 0, i == currency ? 1 : 0);
                }
            });
        }
        cases.holds("prices that were told before cost by the latest rate", () -> {
            PartBook book = priced(0);
            book.price(0, 10, 1, 1);
            Check.same("best of 5", book.best(0, 5), 5);
            book.rate(1, 999);
            Check.same("best of 5 then", book.best(0, 5), 10);
            Check.same("cost of 5 then", book.cost(0, 5), 9990);
        });
    }
}
