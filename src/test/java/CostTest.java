/** Promises 17 and 18: cost, best. */
final class CostTest {
    public static void main(String[] args) {
        stepsOfPrices();
        sumsOfPacks();
        sameCost();
        borders();
        greatest();
        rising();
        wrongQuantities();
        Check.end();
    }

    private static PartBook stocked(int stock) {
        PartBook book = new PartBook();
        book.part(0);
        book.stock(0, stock);
        return book;
    }

    private static void answers(PartBook book, int quantity, int total, long cost) {
        Check.same("best of " + quantity, book.best(0, quantity), total);
        Check.same("cost of " + quantity, book.cost(0, quantity), cost);
    }

    private static void stepsOfPrices() {
        PartBook book = stocked(100);
        answers(book, 1, -1, -1);
        book.price(0, 25, 18, 0);
        answers(book, 1, 25, 450_000);
        book.price(0, 1, 50, 0);
        answers(book, 8, 8, 400_000);
        answers(book, 10, 25, 450_000);
        answers(book, 24, 25, 450_000);
        answers(book, 25, 25, 450_000);
        answers(book, 26, 26, 468_000);
        book.stock(0, 24);
        answers(book, 24, 24, 1_200_000);
        answers(book, 25, -1, -1);
    }

    private static void sumsOfPacks() {
        PartBook book = stocked(100);
        book.price(0, 1, 1, 0);
        book.pack(0, 12);
        answers(book, 1, 12, 12_000);
        answers(book, 13, 24, 24_000);
        answers(book, 96, 96, 96_000);
        answers(book, 97, -1, -1);
        book.pack(0, 7);
        answers(book, 1, 7, 7_000);
        answers(book, 8, 12, 12_000);
        answers(book, 13, 14, 14_000);
        answers(book, 20, 21, 21_000);
        answers(book, 65, 66, 66_000);
        book.stock(0, 13);
        answers(book, 13, -1, -1);
    }

    private static void sameCost() {
        PartBook book = stocked(1000);
        book.price(0, 1, 50, 0);
        book.price(0, 25, 18, 0);
        answers(book, 9, 9, 450_000);
        book.price(0, 50, 9, 0);
        answers(book, 9, 9, 450_000);
        answers(book, 10, 25, 450_000);
        answers(book, 26, 50, 450_000);
    }

    private static void borders() {
        PartBook book = stocked(20_000);
        book.price(0, 10_000, 1, 0);
        book.pack(0, 1000);
        book.pack(0, 999);
        answers(book, 1, 10_000, 10_000_000);
        book.price(0, 9_999, 1, 0);
        answers(book, 1, 9_999, 9_999_000);
        answers(book, 10_000, 10_000, 10_000_000);
        PartBook exact = stocked(10_000);
        exact.price(0, 1, 1, 0);
        exact.pack(0, 1000);
        answers(exact, 10_000, 10_000, 10_000_000);
        exact.stock(0, 9_999);
        answers(exact, 10_000, -1, -1);
        answers(exact, 9_000, 9_000, 9_000_000);
    }

    private static void greatest() {
        PartBook book = stocked(20_000);
        book.price(0, 1, 1_000_000, 2);
        book.rate(2, 1_000_000);
        answers(book, 10_000, 10_000, 10_000_000_000_000_000L);
        book.pack(0, 834);
        answers(book, 10_000, 10_008, 10_008_000_000_000_000L);
    }

    private static void rising() {
        PartBook book = stocked(500);
        book.price(0, 1, 3, 0);
        book.price(0, 100, 9, 1);
        answers(book, 99, 99, 297_000);
        answers(book, 100, 100, 900_000);
        book.rate(1, 100);
        answers(book, 30, 30, 90_000);
        answers(book, 31, 100, 90_000);
    }

    private static void wrongQuantities() {
        PartBook book = stocked(1);
        Check.refuses("cost of part -1", Check.INDEX, () -> book.cost(-1, 1));
        Check.refuses("cost of part 1", Check.INDEX, () -> book.cost(1, 1));
        Check.refuses("cost of 0", Check.ARGUMENT, () -> book.cost(0, 0));
        Check.refuses("cost of 10001", Check.ARGUMENT, () -> book.cost(0, 10_001));
        Check.refuses("cost of both", Check.INDEX, () -> book.cost(1, 0));
        Check.refuses("best of part -1", Check.INDEX, () -> book.best(-1, 1));
        Check.refuses("best of part 1", Check.INDEX, () -> book.best(1, 1));
        Check.refuses("best of -1", Check.ARGUMENT, () -> book.best(0, -1));
        Check.refuses("best of 0", Check.ARGUMENT, () -> book.best(0, 0));
        Check.refuses("best of 10001", Check.ARGUMENT, () -> book.best(0, 10_001));
        Check.refuses("best of both", Check.INDEX, () -> book.best(1, 0));
        Check.same("a quantity that can't be had", book.cost(0, 10_000), -1);
    }
}
