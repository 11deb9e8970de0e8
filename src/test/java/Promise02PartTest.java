/** Promise 2: part. */
final class Promise02PartTest {
    private static final long TOP = 1_000_000_000L;

    public static void main(String[] args) {
        Cases cases = new Cases("promise 2, part");
        cases.outside("maker", 0, 15, Check.ARGUMENT, (book, maker) -> book.part(maker));
        makers(cases);
        numbers(cases);
        fullBook(cases);
        withoutAnything(cases);
        cases.end();
    }

    private static void makers(Cases cases) {
        cases.holds("maker 0, the first one, is taken", () -> standsByItsMaker(0, 1));
        cases.holds("maker 15, the last one, is taken", () -> standsByItsMaker(15, 14));
        cases.holds("each of the 16 makers is taken", () -> {
            PartBook book = new PartBook();
            for (int maker = 0; maker < 16; maker++) {
                Check.same("a part of maker " + maker, book.part(maker), maker);
            }
        });
        cases.holds("a maker may have several parts", () -> {
            PartBook book = Books.of(3, 3, 3);
            Check.finds("the others", book, book.alternates(1, 0), 0, 2);
        });
    }

    private static void standsByItsMaker(int maker, int other) {
        PartBook book = Books.of(other, maker, other);
        book.maker(maker, 49);
        Check.finds("by places", book, book.alternates(0, 0), 1, 2);
        Check.finds("by places", book, book.alternates(2, 0), 1, 0);
    }

    private static void numbers(Cases cases) {
        cases.holds("parts are numbered from 0", () -> {
            PartBook book = new PartBook();
            Check.same("the first one", book.part(9), 0);
            Check.same("the second one", book.part(9), 1);
            Check.same("the third one", book.part(0), 2);
        });
        cases.holds("a refused part has no number", () -> {
            PartBook book = new PartBook();
            Check.refuses("maker 16", Check.ARGUMENT, () -> book.part(16));
            Check.same("the first one that is taken", book.part(15), 0);
        });
    }

    private static void fullBook(Cases cases) {
        cases.holds("the 40th part is number 39", () -> {
            PartBook book = new PartBook();
            for (int i = 0; i < 39; i++) {
                book.part(0);
            }
            Check.same("the 40th", book.part(0), 39);
            Check.same("its state", book.state(39, 0), 0);
        });
        cases.holds("the 41st part is NONE", () -> {
            PartBook book = Books.full();
            Check.same("the 41st", book.part(0), -1);
            Check.same("the one behind", book.part(15), -1);
        });
        cases.holds("the 41st part leaves the 40 as they were", () -> {
            PartBook book = Books.full();
            book.value(39, 0, 7, 1, 0);
            book.value(0, 0, 6, 1, 0);
            book.part(0);
            Check.refuses("part 40", Check.INDEX, () -> book.told(40, 0, 0));
            Check.finds("values", book, book.search(0, 0, 1, TOP, 1), 0, 39);
            Check.same("the others", book.alternates(0, 0), 39);
        });
        cases.holds("a wrong maker of a full book is refused", () -> {
            PartBook book = Books.full();
            Check.refuses("maker 16", Check.ARGUMENT, () -> book.part(16));
            Check.refuses("maker -1", Check.ARGUMENT, () -> book.part(-1));
        });
    }

    /** A part behind three others that have something of everything. */
    private static PartBook withNewPart() {
        PartBook book = Books.furnished();
        book.part(5);
        return book;
    }

    private static void withoutAnything(Cases cases) {
        cases.holds("a new part has no value of any name", () -> {
            PartBook book = withNewPart();
            for (int name = 0; name < 12; name++) {
                Check.same("above of name " + name, book.told(3, name, 0), -1);
                Check.same("below of name " + name, book.told(3, name, 1), -1);
            }
        });
        cases.holds("a new part is no alternate where a value is asked for", () -> {
            PartBook book = withNewPart();
            Check.finds("by rule 0", book, book.alternates(0, 0), 1, 2);
        });
        cases.holds("a new part has a stock of 0", () -> Check.not("another one", withNewPart().stock(3, 0)));
        cases.holds("a new part with a price alone can't be had", () -> {
            PartBook book = withNewPart();
            book.price(3, 1, 1, 0);
            Check.same("best", book.best(3, 1), -1);
        });
        cases.holds("a new part has no price", () -> {
            PartBook book = withNewPart();
            book.stock(3, 20_000);
            Check.same("cost of 1", book.cost(3, 1), -1);
            Check.same("cost of 10,000", book.cost(3, 10_000), -1);
        });
        cases.holds("a new part has no packs but of 1", () -> {
            PartBook book = withNewPart();
            book.stock(3, 20_000);
            book.price(3, 1, 1, 0);
            Check.same("best of 1", book.best(3, 1), 1);
            Check.same("best of 9,999", book.best(3, 9_999), 9_999);
        });
        cases.holds("a new part is planned on every day", () -> {
            PartBook book = withNewPart();
            Check.same("the first day", book.state(3, Long.MIN_VALUE), 0);
            Check.same("day 0", book.state(3, 0), 0);
            Check.same("the last day", book.state(3, Long.MAX_VALUE), 0);
        });
    }
}
