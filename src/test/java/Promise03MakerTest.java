/** Promise 3: maker. */
final class Promise03MakerTest {
    public static void main(String[] args) {
        Cases cases = new Cases("promise 3, maker");
        cases.outside("maker", 0, 15, Check.ARGUMENT, (book, maker) -> book.maker(maker, 1));
        cases.outside("place", 0, 99, Check.ARGUMENT, (book, place) -> book.maker(5, place));
        cases.refuses("neither a maker nor a place", Check.ARGUMENT, book -> book.maker(16, 100));
        places(cases);
        wasAnother(cases);
        others(cases);
        cases.end();
    }

    private static void places(Cases cases) {
        cases.holds("place 0, the first one, is taken", () -> {
            PartBook book = Books.of(0, 1, 2);
            book.maker(1, 1);
            Check.is("another one", book.maker(2, 0));
            Check.not("another one again", book.maker(2, 0));
            Check.finds("in front of place 1", book, book.alternates(0, 0), 2, 1);
        });
        cases.holds("place 99, the last one, is taken", () -> {
            PartBook book = Books.of(1, 2, 0);
            book.maker(2, 98);
            Check.is("another one", book.maker(1, 99));
            Check.not("another one again", book.maker(1, 99));
            Check.finds("behind place 98", book, book.alternates(2, 0), 1, 0);
        });
        cases.holds("place 49 is in front of the place at first", () -> {
            PartBook book = Books.of(0, 1, 2);
            book.maker(2, 49);
            Check.finds("others", book, book.alternates(0, 0), 2, 1);
        });
        cases.holds("place 51 is behind the place at first", () -> {
            PartBook book = Books.of(0, 1, 2);
            book.maker(1, 51);
            Check.finds("others", book, book.alternates(0, 0), 2, 1);
        });
        cases.holds("the first maker and the last one have places", () -> {
            PartBook book = Books.of(7, 0, 15);
            Check.is("maker 15", book.maker(15, 20));
            Check.finds("maker 15 in front", book, book.alternates(0, 0), 2, 1);
            Check.is("maker 0", book.maker(0, 10));
            Check.finds("maker 0 in front", book, book.alternates(0, 0), 1, 2);
        });
    }

    private static void wasAnother(Cases cases) {
        cases.holds("50 is no other place at first", () -> Check.not("other", new PartBook().maker(4, 50)));
        cases.holds("it is another place, then the same, then another again", () -> {
            PartBook book = new PartBook();
            Check.is("51", book.maker(4, 51));
            Check.not("51 again", book.maker(4, 51));
            Check.is("50", book.maker(4, 50));
            Check.not("50 again", book.maker(4, 50));
        });
    }

    private static void others(Cases cases) {
        cases.holds("the other makers keep their places", () -> {
            PartBook book = new PartBook();
            book.maker(7, 3);
            for (int maker = 0; maker < 16; maker++) {
                Check.same("maker " + maker, book.maker(maker, 50) ? 1 : 0, maker == 7 ? 1 : 0);
            }
        });
        cases.holds("all parts of the maker stand by it, those made later too", () -> {
            PartBook book = Books.of(0, 1, 2);
            book.maker(2, 9);
            book.part(1);
            book.part(2);
            Check.finds("others", book, book.alternates(0, 0), 2, 4, 1, 3);
        });
    }
}
