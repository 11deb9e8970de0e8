/** Promise 1: a new object has no parts and no rules. */
final class Promise01NewBookTest {
    private static final long TOP = 1_000_000_000L;

    public static void main(String[] args) {
        Cases cases = new Cases("promise 1, a new object");
        empty(cases);
        atFirst(cases);
        apart(cases);
        lastCall(cases);
        cases.end();
    }

    private static void empty(Cases cases) {
        cases.holds("it has no part 0", () -> {
            PartBook book = new PartBook();
            Check.refuses("state of part 0", Check.INDEX, () -> book.state(0, 0));
        });
        cases.holds("it has no rule 0", () -> {
            PartBook book = new PartBook();
            Check.refuses("ask of rule 0", Check.INDEX, () -> book.ask(0, 0, 0));
        });
        cases.holds("its first part is number 0", () -> Check.same("part", new PartBook().part(0), 0));
        cases.holds("its first rule is number 0", () -> Check.same("rule", new PartBook().rule(), 0));
        cases.holds("a search of any name finds nothing", () -> {
            PartBook book = new PartBook();
            for (int name = 0; name < 12; name++) {
                Check.finds("name " + name, book, book.search(name, 0, 1, TOP, 1));
            }
        });
        cases.holds("nothing is found yet", () -> {
            PartBook book = new PartBook();
            for (int k = -1; k <= 40; k++) {
                Check.same("found(" + k + ")", book.found(k), -1);
            }
        });
    }

    private static void atFirst(Cases cases) {
        cases.holds("NONE is -1", () -> Check.same("NONE", PartBook.NONE, -1));
        cases.holds("each maker's place is 50 at first", () -> {
            PartBook book = new PartBook();
            for (int maker = 0; maker < 16; maker++) {
                Check.not("maker " + maker + " had another place", book.maker(maker, 50));
            }
        });
        cases.holds("each currency's rate is 1,000 at first", () -> {
            PartBook book = new PartBook();
            for (int currency = 0; currency < 4; currency++) {
                Check.not("currency " + currency + " had another rate", book.rate(currency, 1000));
            }
        });
    }

    private static void apart(Cases cases) {
        cases.holds("what is told to one object is not told to another one", () -> {
            PartBook one = Books.furnished();
            PartBook other = new PartBook();
            Check.same("the other's found(0)", other.found(0), -1);
            Check.is("the other's maker 5 had another place", other.maker(5, 60));
            Check.is("the other's currency 3 had another rate", other.rate(3, 5000));
            Check.same("the other's first rule", other.rule(), 0);
            Check.not("it asked for something", other.ask(0, 0, -1));
            Check.same("the other's first part", other.part(0), 0);
            Check.same("its value", other.told(0, 0, 0), -1);
            Check.same("the first one", Books.answers(one), Books.answers(Books.furnished()));
        });
    }

    private static void lastCall(Cases cases) {
        cases.holds("the 512th call is answered as any other", () -> {
            PartBook book = new PartBook();
            book.part(0);
            book.rule();
            for (int call = 3; call < 512; call++) {
                Check.is("call " + call, book.stock(0, call));
            }
            Check.not("the stock was another one", book.stock(0, 511));
        });
    }
}
