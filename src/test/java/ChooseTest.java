/** Promises 19 and 20: choose, buy. */
final class ChooseTest {
    public static void main(String[] args) {
        leastCost();
        sameCost();
        states();
        onlyAlternates();
        buying();
        buyingInPacks();
        wrongCalls();
        Check.end();
    }

    /** Parts of makers 0, 1, 2 .., sold from day 0 on, with a stock of 20, 10 cents a piece. */
    private static PartBook parts(int count) {
        PartBook book = new PartBook();
        for (int part = 0; part < count; part++) {
            book.part(part);
            book.stock(part, 20);
            book.price(part, 1, 10, 0);
            book.life(part, 0, 1);
        }
        book.rule();
        return book;
    }

    private static void leastCost() {
        PartBook book = parts(3);
        book.price(1, 1, 9, 0);
        Check.same("a cheaper one", book.choose(0, 0, 5, 0), 1);
        book.price(2, 1, 4, 1);
        Check.same("a still cheaper one", book.choose(0, 0, 5, 0), 2);
        book.rate(1, 3000);
        Check.same("dear by its rate", book.choose(0, 0, 5, 0), 1);
        book.pack(1, 6);
        Check.same("dear by its packs", book.choose(0, 0, 5, 0), 0);
        Check.same("cheap with whole packs", book.choose(0, 0, 6, 0), 1);
        Check.same("more than the packs give", book.choose(0, 0, 19, 0), 0);
        Check.same("more than any has", book.choose(0, 0, 21, 0), -1);
    }

    private static void sameCost() {
        PartBook book = parts(4);
        Check.same("the part itself", book.choose(2, 0, 5, 0), 2);
        book.maker(3, 10);
        Check.same("the part itself, whatever the places", book.choose(2, 0, 5, 0), 2);
        book.stock(2, 0);
        Check.same("by places", book.choose(2, 0, 5, 0), 3);
        book.maker(1, 10);
        Check.same("by numbers", book.choose(2, 0, 5, 0), 1);
        book.maker(0, 11);
        Check.same("a greater place", book.choose(2, 0, 5, 0), 1);
        book.price(0, 1, 9, 0);
        Check.same("cheaper, whatever the places", book.choose(2, 0, 5, 0), 0);
    }

    private static void states() {
        PartBook book = parts(2);
        Check.same("planned", book.choose(0, 0, 5, -1), -1);
        book.life(1, -5, 2);
        Check.same("last ones", book.choose(0, 0, 5, -1), 1);
        book.life(0, 10, 3);
        Check.same("past", book.choose(0, 0, 5, 10), 1);
        Check.same("the day before", book.choose(0, 0, 5, 9), 0);
        book.life(1, 10, 0);
        Check.same("none", book.choose(0, 0, 5, 10), -1);
    }

    private static void onlyAlternates() {
        PartBook book = parts(3);
        book.price(1, 1, 1, 0);
        book.price(2, 1, 5, 0);
        book.value(0, 0, 7, 1, 0);
        book.value(1, 0, 6, 1, 0);
        book.value(2, 0, 8, 1, 0);
        book.ask(0, 0, 1);
        Check.same("an alternate", book.choose(0, 0, 5, 0), 2);
        Check.same("of the least one", book.choose(1, 0, 5, 0), 1);
        book.ask(0, 1, 1);
        Check.same("without alternates the part itself", book.choose(0, 0, 5, 0), 0);
    }

    private static void buying() {
        PartBook book = parts(2);
        book.price(1, 1, 9, 0);
        Check.same("buy 15", book.buy(0, 0, 15, 0), 15);
        Check.not("5 are left", book.stock(1, 5));
        Check.not("the other's stock stays", book.stock(0, 20));
        Check.same("the next choice", book.choose(0, 0, 6, 0), 0);
        Check.same("buy 5", book.buy(0, 0, 5, 0), 5);
        Check.not("none is left", book.stock(1, 0));
        Check.same("buy 20", book.buy(0, 0, 20, 0), 20);
        Check.same("nothing is left", book.buy(0, 0, 1, 0), -1);
        Check.same("choose tells so too", book.choose(0, 0, 1, 0), -1);
    }

    private static void buyingInPacks() {
        PartBook book = parts(1);
        book.pack(0, 6);
        Check.same("a pack", book.buy(0, 0, 1, 0), 6);
        Check.not("14 are left", book.stock(0, 14));
        book.price(0, 12, 1, 0);
        Check.same("the BEST T", book.buy(0, 0, 1, 0), 12);
        Check.not("2 are left", book.stock(0, 2));
        Check.same("no pack is left", book.buy(0, 0, 1, 0), -1);
        Check.not("2 are still left", book.stock(0, 2));
    }

    private static void wrongCalls() {
        PartBook book = parts(1);
        Check.refuses("choose part -1", Check.INDEX, () -> book.choose(-1, 0, 1, 0));
        Check.refuses("choose part 1", Check.INDEX, () -> book.choose(1, 0, 1, 0));
        Check.refuses("choose rule -1", Check.INDEX, () -> book.choose(0, -1, 1, 0));
        Check.refuses("choose rule 1", Check.INDEX, () -> book.choose(0, 1, 1, 0));
        Check.refuses("choose 0", Check.ARGUMENT, () -> book.choose(0, 0, 0, 0));
        Check.refuses("choose 10001", Check.ARGUMENT, () -> book.choose(0, 0, 10_001, 0));
        Check.refuses("choose rule and quantity", Check.INDEX, () -> book.choose(0, 1, 0, 0));
        Check.refuses("buy part -1", Check.INDEX, () -> book.buy(-1, 0, 1, 0));
        Check.refuses("buy part 1", Check.INDEX, () -> book.buy(1, 0, 1, 0));
        Check.refuses("buy rule -1", Check.INDEX, () -> book.buy(0, -1, 1, 0));
        Check.refuses("buy rule 1", Check.INDEX, () -> book.buy(0, 1, 1, 0));
        Check.refuses("buy 0", Check.ARGUMENT, () -> book.buy(0, 0, 0, 0));
        Check.refuses("buy 10001", Check.ARGUMENT, () -> book.buy(0, 0, 10_001, 0));
        Check.refuses("buy rule and quantity", Check.INDEX, () -> book.buy(0, 1, 0, 0));
        Check.not("a refused buy takes nothing", book.stock(0, 20));
    }
}
