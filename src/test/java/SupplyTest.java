/** Promises 11 to 16: price, rate, pack, stock, life, state. */
final class SupplyTest {
    public static void main(String[] args) {
        prices();
        wrongPrices();
        rates();
        packs();
        stocks();
        lives();
        daysAtTheEdges();
        wrongLives();
        Check.end();
    }

    private static PartBook onePart() {
        PartBook book = new PartBook();
        book.part(0);
        return book;
    }

    private static void prices() {
        PartBook book = onePart();
        book.stock(0, 20_000);
        for (int i = 8; i >= 1; i--) {
            Check.is("a price", book.price(0, i * 1000, 1_000_000 - i, i % 4));
        }
        Check.not("a ninth one", book.price(0, 1, 5, 0));
        Check.same("below all beginnings", book.best(0, 1), 1000);
        Check.not("the same again", book.price(0, 8000, 999_992, 0));
        Check.is("other cents", book.price(0, 8000, 1, 0));
        Check.same("other cents count", book.cost(0, 1), 8000 * 1000L);
        Check.is("another currency", book.price(0, 8000, 1, 3));
        Check.not("the same again", book.price(0, 8000, 1, 3));
        Check.not("still a ninth one", book.price(0, 10_000, 1, 0));
        book.rate(3, 7);
        Check.same("another currency counts", book.cost(0, 8001), 8001 * 7L);
    }

    private static void wrongPrices() {
        PartBook book = onePart();
        Check.refuses("part -1", Check.INDEX, () -> book.price(-1, 1, 1, 0));
        Check.refuses("part 1", Check.INDEX, () -> book.price(1, 1, 1, 0));
        Check.refuses("currency -1", Check.INDEX, () -> book.price(0, 1, 1, -1));
        Check.refuses("currency 4", Check.INDEX, () -> book.price(0, 1, 1, 4));
        Check.refuses("from 0", Check.ARGUMENT, () -> book.price(0, 0, 1, 0));
        Check.refuses("from 10001", Check.ARGUMENT, () -> book.price(0, 10_001, 1, 0));
        Check.refuses("cents 0", Check.ARGUMENT, () -> book.price(0, 1, 0, 0));
        Check.refuses("cents too many", Check.ARGUMENT, () -> book.price(0, 1, 1_000_001, 0));
        Check.refuses("currency and cents", Check.INDEX, () -> book.price(0, 1, 0, 4));
        Check.is("the greatest numbers", book.price(0, 10_000, 1_000_000, 3));
    }

    private static void rates() {
        PartBook book = new PartBook();
        for (int currency = 0; currency < 4; currency++) {
            Check.not("the first rate", book.rate(currency, 1000));
        }
        Check.is("rate 1", book.rate(0, 1));
        Check.not("rate 1 again", book.rate(0, 1));
        Check.is("rate 1000000", book.rate(0, 1_000_000));
        Check.not("another currency's stays", book.rate(1, 1000));
        Check.refuses("currency -1", Check.INDEX, () -> book.rate(-1, 1));
        Check.refuses("currency 4", Check.INDEX, () -> book.rate(4, 1));
        Check.refuses("rate 0", Check.ARGUMENT, () -> book.rate(0, 0));
        Check.refuses("rate 1000001", Check.ARGUMENT, () -> book.rate(0, 1_000_001));
        Check.refuses("rate that an int would take", Check.ARGUMENT, () -> book.rate(0, (1L << 32) + 5));
        Check.refuses("both", Check.INDEX, () -> book.rate(4, 0));
    }

    private static void packs() {
        PartBook book = onePart();
        Check.is("size 1000", book.pack(0, 1000));
        Check.not("size 1000 again", book.pack(0, 1000));
        for (int size = 2; size <= 6; size++) {
            Check.is("a size", book.pack(0, size));
        }
        Check.not("a seventh one", book.pack(0, 7));
        Check.not("a told one", book.pack(0, 2));
        book.stock(0, 10);
        book.price(0, 1, 1, 0);
        Check.same("a refused size does not count", book.best(0, 1), 2);
        Check.refuses("part -1", Check.INDEX, () -> book.pack(-1, 1));
        Check.refuses("part 1", Check.INDEX, () -> book.pack(1, 1));
        Check.refuses("size 0", Check.ARGUMENT, () -> book.pack(0, 0));
        Check.refuses("size 1001", Check.ARGUMENT, () -> book.pack(0, 1001));
        Check.refuses("both", Check.INDEX, () -> book.pack(1, 0));
    }

    private static void stocks() {
        PartBook book = onePart();
        Check.not("stock 0", book.stock(0, 0));
        Check.is("stock 20000", book.stock(0, 20_000));
        Check.not("stock 20000 again", book.stock(0, 20_000));
        Check.refuses("stock -1", Check.ARGUMENT, () -> book.stock(0, -1));
        Check.refuses("stock 20001", Check.ARGUMENT, () -> book.stock(0, 20_001));
        Check.refuses("part -1", Check.INDEX, () -> book.stock(-1, 0));
        Check.refuses("part 1", Check.INDEX, () -> book.stock(1, 0));
        Check.refuses("both", Check.INDEX, () -> book.stock(1, -1));
        Check.not("a refused stock changes nothing", book.stock(0, 20_000));
    }

    private static void lives() {
        PartBook book = onePart();
        int[] days = {50, 10, 80, 30, 70, 20, 60, 40};
        for (int day : days) {
            Check.is("a day", book.life(0, day, day / 10 % 4));
        }
        for (int day = 10; day <= 80; day += 10) {
            Check.same("state of day " + day, book.state(0, day), day / 10 % 4);
            Check.same("state of day " + (day + 9), book.state(0, day + 9), day / 10 % 4);
        }
        Check.same("before all", book.state(0, 9), 0);
        Check.not("a ninth day", book.life(0, 90, 3));
        Check.same("a ninth day does not count", book.state(0, 90), 0);
        Check.not("told so", book.life(0, 30, 3));
        Check.is("told anew", book.life(0, 30, 1));
        Check.same("told anew counts", book.state(0, 35), 1);
        Check.same("the day before", book.state(0, 29), 2);
        Check.same("the day behind", book.state(0, 40), 0);
    }

    private static void daysAtTheEdges() {
        PartBook book = onePart();
        Check.is("the last day", book.life(0, Long.MAX_VALUE, 3));
        Check.same("before it", book.state(0, Long.MAX_VALUE - 1), 0);
        Check.same("on it", book.state(0, Long.MAX_VALUE), 3);
        Check.is("the first day", book.life(0, Long.MIN_VALUE, 2));
        Check.same("on the first day", book.state(0, Long.MIN_VALUE), 2);
        Check.same("day 0", book.state(0, 0), 2);
        Check.is("state 0 is a state too", book.life(0, -1, 0));
        Check.not("told so", book.life(0, -1, 0));
        Check.same("planned again", book.state(0, 5), 0);
    }

    private static void wrongLives() {
        PartBook book = onePart();
        Check.refuses("part -1", Check.INDEX, () -> book.life(-1, 0, 0));
        Check.refuses("part 1", Check.INDEX, () -> book.life(1, 0, 0));
        Check.refuses("state -1", Check.ARGUMENT, () -> book.life(0, 0, -1));
        Check.refuses("state 4", Check.ARGUMENT, () -> book.life(0, 0, 4));
        Check.refuses("both", Check.INDEX, () -> book.life(1, 0, 4));
        Check.refuses("state of part -1", Check.INDEX, () -> book.state(-1, 0));
        Check.refuses("state of part 1", Check.INDEX, () -> book.state(1, 0));
    }
}
