/** Promises 1 to 3: a new object, part, maker. */
final class PartsTest {
    public static void main(String[] args) {
        newBook();
        partNumbers();
        partStartsEmpty();
        makerPlaces();
        booksAreApart();
        Check.end();
    }

    private static void newBook() {
        PartBook book = new PartBook();
        Check.same("NONE", PartBook.NONE, -1);
        Check.same("found(0) of a new book", book.found(0), -1);
        Check.same("search of a new book", book.search(0, 0, 1, 1_000_000_000, 1), 0);
        Check.refuses("state without parts", Check.INDEX, () -> book.state(0, 0));
        book.part(0);
        Check.refuses("alternates without rules", Check.INDEX, () -> book.alternates(0, 0));
        Check.refuses("ask without rules", Check.INDEX, () -> book.ask(0, 0, 0));
    }

    private static void partNumbers() {
        PartBook book = new PartBook();
        Check.refuses("part(-1)", Check.ARGUMENT, () -> book.part(-1));
        Check.refuses("part(16)", Check.ARGUMENT, () -> book.part(16));
        Check.refuses("part(MAX)", Check.ARGUMENT, () -> book.part(Integer.MAX_VALUE));
        for (int i = 0; i < 40; i++) {
            Check.same("part number", book.part(i % 16), i);
        }
        Check.same("the 41st part", book.part(0), -1);
        Check.same("the 42nd part", book.part(15), -1);
        Check.refuses("part(16) of a full book", Check.ARGUMENT, () -> book.part(16));
        Check.same("the last part", book.state(39, 0), 0);
        Check.refuses("part 40", Check.INDEX, () -> book.state(40, 0));
    }

    private static void partStartsEmpty() {
        PartBook book = new PartBook();
        book.part(3);
        for (int name = 0; name < 12; name++) {
            Check.same("told of a new part", book.told(0, name, 0), -1);
        }
        Check.not("stock 0 of a new part", book.stock(0, 0));
        Check.same("state of a new part", book.state(0, Long.MAX_VALUE), 0);
        Check.same("cost of a new part", book.cost(0, 1), -1);
        book.price(0, 1, 1, 0);
        Check.same("cost without stock", book.cost(0, 1), -1);
    }

    private static void makerPlaces() {
        PartBook book = new PartBook();
        Check.not("a maker's first place", book.maker(0, 50));
        Check.not("the last maker's first place", book.maker(15, 50));
        Check.is("place 0", book.maker(0, 0));
        Check.not("place 0 again", book.maker(0, 0));
        Check.is("place 99", book.maker(0, 99));
        Check.not("another maker's place stays", book.maker(1, 50));
        Check.refuses("maker -1", Check.ARGUMENT, () -> book.maker(-1, 0));
        Check.refuses("maker 16", Check.ARGUMENT, () -> book.maker(16, 0));
        Check.refuses("place -1", Check.ARGUMENT, () -> book.maker(0, -1));
        Check.refuses("place 100", Check.ARGUMENT, () -> book.maker(0, 100));
        Check.not("a refused place changes nothing", book.maker(0, 99));
    }

    private static void booksAreApart() {
        PartBook one = new PartBook();
        PartBook other = new PartBook();
        one.part(0);
        one.maker(4, 4);
        one.rate(2, 5);
        Check.same("first part of the other book", other.part(0), 0);
        Check.is("place in the other book", other.maker(4, 4));
        Check.is("rate in the other book", other.rate(2, 5));
    }
}
