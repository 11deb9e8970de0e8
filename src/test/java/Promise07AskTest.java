/** Promise 7: ask. */
final class Promise07AskTest {
    public static void main(String[] args) {
        Cases cases = new Cases("promise 7, ask");
        cases.rules((book, rule) -> book.ask(rule, 5, 0));
        cases.names((book, name) -> book.ask(0, name, 2));
        cases.outside("how", -1, 2, Check.ARGUMENT, (book, how) -> book.ask(0, 0, how));
        cases.refuses("no such rule with a wrong how", Check.INDEX, book -> book.ask(2, 0, 3));
        cases.refuses("no such name with a wrong how", Check.INDEX, book -> book.ask(0, 12, 3));
        otherwise(cases);
        hows(cases);
        others(cases);
        cases.end();
    }

    private static void otherwise(Cases cases) {
        for (int from = -1; from <= 2; from++) {
            for (int to = -1; to <= 2; to++) {
                int first = from;
                int then = to;
                cases.holds("it was " + (first == then ? "so" : "otherwise") + ", from " + first + " to " + then, () -> {
                    PartBook book = Books.of();
                    book.ask(0, 7, first);
                    Check.same("otherwise", book.ask(0, 7, then) ? 1 : 0, first == then ? 0 : 1);
                    Check.not("otherwise again", book.ask(0, 7, then));
                });
            }
        }
        cases.holds("a new rule does not ask: NONE is not otherwise", () -> {
            PartBook book = Books.of();
            for (int name = 0; name < 12; name++) {
                Check.not("name " + name, book.ask(0, name, -1));
            }
        });
    }

    /** Of part 0 with 5: part 1 with 4, part 2 with 5, part 3 with 6, part 4 without. */
    private static PartBook values() {
        PartBook book = Books.of(0, 0, 0, 0, 0);
        book.value(0, 11, 5, 1, 0);
        book.value(1, 11, 4, 1, 0);
        book.value(2, 11, 5, 1, 0);
        book.value(3, 11, 6, 1, 0);
        return book;
    }

    private static void asks(Cases cases, String name, int how, int... due) {
        cases.holds(name, () -> {
            PartBook book = values();
            book.ask(0, 11, how);
            Check.finds("alternates", book, book.alternates(0, 0), due);
        });
    }

    private static void hows(Cases cases) {
        asks(cases, "how 0 asks for EQUAL", 0, 2);
        asks(cases, "how 1 asks for AT LEAST", 1, 2, 3);
        asks(cases, "how 2 asks for AT MOST", 2, 1, 2);
        asks(cases, "how NONE asks for nothing", -1, 1, 2, 3, 4);
        cases.holds("how NONE: not any more", () -> {
            PartBook book = values();
            book.ask(0, 11, 0);
            Check.is("otherwise", book.ask(0, 11, -1));
            Check.finds("alternates", book, book.alternates(0, 0), 1, 2, 3, 4);
        });
        cases.holds("asked for anew, the latest counts", () -> {
            PartBook book = values();
            book.ask(0, 11, 1);
            book.ask(0, 11, 2);
            Check.finds("alternates", book, book.alternates(0, 0), 1, 2);
        });
    }

    private static void others(Cases cases) {
        cases.holds("the other names of the rule are asked for as before", () -> {
            PartBook book = Books.of();
            book.ask(0, 5, 2);
            for (int name = 0; name < 12; name++) {
                Check.same("name " + name, book.ask(0, name, -1) ? 1 : 0, name == 5 ? 1 : 0);
            }
        });
        cases.holds("the other rules ask as before", () -> {
            PartBook book = Books.full();
            book.ask(4, 0, 1);
            book.ask(4, 11, 1);
            for (int rule = 0; rule < 10; rule++) {
                Check.same("rule " + rule + " name 0", book.ask(rule, 0, -1) ? 1 : 0, rule == 4 ? 1 : 0);
                Check.same("rule " + rule + " name 11", book.ask(rule, 11, -1) ? 1 : 0, rule == 4 ? 1 : 0);
            }
        });
    }
}
