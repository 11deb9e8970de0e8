/** Promise 10: found. */
final class Promise10FoundTest {
    private static final long TOP = 1_000_000_000L;

    public static void main(String[] args) {
        Cases cases = new Cases("promise 10, found");
        numbers(cases);
        latest(cases);
        asItWas(cases);
        refused(cases);
        cases.end();
    }

    /** Parts 0 to 2 with 3, 2, 1 of name 0: a search finds 2, 1, 0, and alternates of 1 are 0, 2. */
    private static PartBook searched() {
        PartBook book = Books.of(0, 1, 2);
        for (int part = 0; part < 3; part++) {
            book.value(part, 0, 3 - part, 1, 0);
        }
        book.search(0, 0, 1, TOP, 1);
        return book;
    }

    private static void numbers(Cases cases) {
        cases.holds("before any search there is none", () -> Check.same("found(0)", Books.of(0, 0).found(0), -1));
        cases.holds("k counts from 0", () -> Check.same("found(0)", searched().found(0), 2));
        cases.holds("the last k", () -> Check.same("found(2)", searched().found(2), 0));
        cases.holds("the first k behind the last", () -> Check.same("found(3)", searched().found(3), -1));
        cases.holds("k -1", () -> Check.same("found(-1)", searched().found(-1), -1));
        cases.holds("the least k", () -> Check.same("found", searched().found(Integer.MIN_VALUE), -1));
        cases.holds("the greatest k", () -> Check.same("found", searched().found(Integer.MAX_VALUE), -1));
        cases.holds("k 39 is the last of a full book", () -> {
            PartBook book = Books.full();
            for (int part = 0; part < 40; part++) {
                book.value(part, 0, part, 1, 0);
            }
            book.search(0, 0, 1, TOP, 1);
            Check.same("found(39)", book.found(39), 39);
            Check.same("found(40)", book.found(40), -1);
        });
        cases.holds("found() may be asked again", () -> {
            PartBook book = searched();
            for (int i = 0; i < 2; i++) {
                Check.finds("time " + i, book, 3, 2, 1, 0);
            }
        });
    }

    private static void latest(Cases cases) {
        cases.holds("alternates() behind search()", () -> {
            PartBook book = searched();
            Check.finds("alternates", book, book.alternates(1, 0), 0, 2);
        });
        cases.holds("search() behind alternates()", () -> {
            PartBook book = searched();
            book.alternates(1, 0);
            Check.finds("search", book, book.search(0, 1, 1, 1, 1), 2);
        });
        cases.holds("a search that found none is the latest too", () -> {
            PartBook book = searched();
            book.search(0, 4, 1, 5, 1);
            Check.finds("none", book, 0);
        });
        cases.holds("alternates that found none are the latest too", () -> {
            PartBook book = searched();
            book.ask(0, 5, 0);
            book.alternates(1, 0);
            Check.finds("none", book, 0);
        });
    }

    private static void stays(Cases cases, String name, Cases.Use call) {
        cases.holds("as it was then, after " + name, () -> {
            PartBook book = searched();
            call.on(book);
            Check.finds("search", book, 3, 2, 1, 0);
        });
    }

    private static void asItWas(Cases cases) {
        stays(cases, "a new part", book -> book.part(0));
        stays(cases, "another place of a maker", book -> book.maker(0, 0));
        stays(cases, "another value", book -> book.value(0, 0, 0, 1, 0));
        stays(cases, "a value out of the span", book -> book.value(2, 0, TOP, 1, 9));
        stays(cases, "a new rule", book -> book.rule());
        stays(cases, "a rule that asks for more", book -> book.ask(0, 0, 0));
        stays(cases, "a choice", Promise10FoundTest::chooseSome);
        stays(cases, "a purchase", Promise10FoundTest::buySome);
        stays(cases, "a load against a rating", book -> book.derate(0, 0, 1, 1, 50));
        cases.holds("alternates as they were then, after other places and rules", () -> {
            PartBook book = searched();
            book.alternates(1, 0);
            book.maker(2, 0);
            book.ask(0, 0, 1);
            Check.finds("alternates", book, 2, 0, 2);
        });
    }

    private static void sell(PartBook book) {
        for (int part = 0; part < 3; part++) {
            book.stock(part, 5);
            book.price(part, 1, 1 + part, 0);
            book.life(part, 0, 1);
        }
    }

    private static void chooseSome(PartBook book) {
        sell(book);
        Check.same("choose", book.choose(1, 0, 1, 0), 0);
    }

    private static void buySome(PartBook book) {
        sell(book);
        Check.same("buy", book.buy(1, 0, 5, 0), 5);
    }

    private static void refused(Cases cases) {
        stays(cases, "alternates() of no part",
                book -> Check.refuses("it", Check.INDEX, () -> book.alternates(3, 0)));
        stays(cases, "alternates() by no rule",
                book -> Check.refuses("it", Check.INDEX, () -> book.alternates(0, 1)));
        stays(cases, "search() of no name",
                book -> Check.refuses("it", Check.INDEX, () -> book.search(12, 0, 1, 1, 1)));
        stays(cases, "search() to a wrong border",
                book -> Check.refuses("it", Check.ARGUMENT, () -> book.search(0, 0, 1, 1, 0)));
    }
}
