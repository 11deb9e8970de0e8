/** Promises 6 to 8 and 10: rule, ask, alternates, found. */
final class RulesTest {
    public static void main(String[] args) {
        ruleNumbers();
        asking();
        wrongAsks();
        emptyRule();
        kindsOfAsking();
        valuesMissing();
        severalNames();
        exactComparison();
        foundStays();
        wrongAlternates();
        Check.end();
    }

    private static PartBook parts(int... makers) {
        PartBook book = new PartBook();
        for (int maker : makers) {
            book.part(maker);
        }
        book.rule();
        return book;
    }

    private static void ruleNumbers() {
        PartBook book = new PartBook();
        for (int i = 0; i < 10; i++) {
            Check.same("rule number", book.rule(), i);
        }
        Check.same("the 11th rule", book.rule(), -1);
        Check.same("the 12th rule", book.rule(), -1);
        Check.is("the last rule", book.ask(9, 11, 0));
    }

    private static void asking() {
        PartBook book = parts();
        book.rule();
        Check.not("not asked for", book.ask(0, 0, -1));
        Check.is("equal", book.ask(0, 0, 0));
        Check.not("equal again", book.ask(0, 0, 0));
        Check.is("at least", book.ask(0, 0, 1));
        Check.is("at most", book.ask(0, 0, 2));
        Check.not("at most again", book.ask(0, 0, 2));
        Check.not("another name", book.ask(0, 1, -1));
        Check.not("another rule", book.ask(1, 0, -1));
        Check.is("not any more", book.ask(0, 0, -1));
        Check.not("not any more again", book.ask(0, 0, -1));
    }

    private static void wrongAsks() {
        PartBook book = parts();
        Check.refuses("rule -1", Check.INDEX, () -> book.ask(-1, 0, 0));
        Check.refuses("rule 1", Check.INDEX, () -> book.ask(1, 0, 0));
        Check.refuses("name -1", Check.INDEX, () -> book.ask(0, -1, 0));
        Check.refuses("name 12", Check.INDEX, () -> book.ask(0, 12, 0));
        Check.refuses("how -2", Check.ARGUMENT, () -> book.ask(0, 0, -2));
        Check.refuses("how 3", Check.ARGUMENT, () -> book.ask(0, 0, 3));
        Check.refuses("rule and how", Check.INDEX, () -> book.ask(1, 0, 3));
        Check.refuses("name and how", Check.INDEX, () -> book.ask(0, 12, 3));
    }

    private static void emptyRule() {
        PartBook book = parts(2, 1, 0, 1);
        book.maker(2, 10);
        book.maker(1, 20);
        book.maker(0, 10);
        Check.finds("by places", book, book.alternates(1, 0), 0, 2, 3);
        Check.finds("by places", book, book.alternates(2, 0), 0, 1, 3);
        book.maker(2, 30);
        Check.finds("other places", book, book.alternates(1, 0), 2, 3, 0);
        PartBook alone = parts(0);
        Check.finds("a part alone", alone, alone.alternates(0, 0));
    }

    private static void kindsOfAsking() {
        PartBook book = parts(0, 0, 0, 0);
        book.value(0, 2, 1, 2, 0);
        book.value(1, 2, 5, 1, -1);
        book.value(2, 2, 1, 3, 0);
        book.value(3, 2, 2, 3, 0);
        book.ask(0, 2, 0);
        Check.finds("equal", book, book.alternates(0, 0), 1);
        book.ask(0, 2, 1);
        Check.finds("at least", book, book.alternates(0, 0), 1, 3);
        Check.finds("at least the greatest", book, book.alternates(3, 0));
        book.ask(0, 2, 2);
        Check.finds("at most", book, book.alternates(0, 0), 1, 2);
        book.ask(0, 2, -1);
        Check.finds("not asked", book, book.alternates(0, 0), 1, 2, 3);
    }

    private static void valuesMissing() {
        PartBook book = parts(0, 0, 0);
        book.value(0, 0, 0, 1, 0);
        book.value(1, 0, 0, 1, 0);
        book.ask(0, 0, 2);
        Check.finds("another one has none", book, book.alternates(0, 0), 1);
        Check.finds("the part itself has none", book, book.alternates(2, 0));
        book.ask(0, 0, 0);
        Check.finds("none is not zero", book, book.alternates(0, 0), 1);
        book.ask(0, 11, 1);
        Check.finds("none has it", book, book.alternates(0, 0));
    }

    private static void severalNames() {
        PartBook book = parts(0, 0, 0, 0);
        long[][] values = {{5, 5}, {5, 6}, {6, 5}, {6, 4}};
        for (int part = 0; part < 4; part++) {
            book.value(part, 0, values[part][0], 1, 0);
            book.value(part, 11, values[part][1], 1, 0);
        }
        book.rule();
        book.ask(1, 0, 1);
        book.ask(1, 11, 2);
        Check.finds("at least and at most", book, book.alternates(0, 1), 2, 3);
        Check.finds("the other rule asks for nothing", book, book.alternates(0, 0), 1, 2, 3);
    }

    private static void exactComparison() {
        PartBook book = parts(0, 0, 0, 0);
        book.value(0, 0, 999_999_999, 999_999, 9);
        book.value(1, 0, 999_999_998, 999_998, 9);
        book.value(2, 0, 1, 999_999, -9);
        book.value(3, 0, 1, 1_000_000, -9);
        book.ask(0, 0, 1);
        Check.finds("999999999/999999", book, book.alternates(0, 0), 1);
        Check.finds("999999998/999998", book, book.alternates(1, 0));
        Check.finds("1/999999", book, book.alternates(2, 0), 0, 1);
        book.ask(0, 0, 2);
        Check.finds("1/999999 at most", book, book.alternates(2, 0), 3);
        Check.finds("1/1000000 at most", book, book.alternates(3, 0));
    }

    private static void foundStays() {
        PartBook book = parts(0, 1, 2);
        Check.same("before any", book.found(0), -1);
        book.alternates(0, 0);
        book.maker(2, 0);
        book.part(3);
        book.value(1, 0, 1, 1, 0);
        book.ask(0, 0, 0);
        book.choose(1, 0, 1, 0);
        Check.refuses("no part", Check.INDEX, () -> book.alternates(9, 0));
        Check.refuses("no name", Check.INDEX, () -> book.search(12, 0, 1, 1, 1));
        Check.refuses("no border", Check.ARGUMENT, () -> book.search(0, 0, 0, 1, 1));
        Check.finds("as it was then", book, 2, 1, 2);
        Check.same("found(-1)", book.found(-1), -1);
        Check.same("found(MIN)", book.found(Integer.MIN_VALUE), -1);
        Check.same("found(MAX)", book.found(Integer.MAX_VALUE), -1);
        Check.same("found(40)", book.found(40), -1);
        Check.finds("found anew", book, book.alternates(0, 0));
    }

    private static void wrongAlternates() {
        PartBook book = parts(0);
        Check.refuses("part -1", Check.INDEX, () -> book.alternates(-1, 0));
        Check.refuses("part 1", Check.INDEX, () -> book.alternates(1, 0));
        Check.refuses("rule -1", Check.INDEX, () -> book.alternates(0, -1));
        Check.refuses("rule 1", Check.INDEX, () -> book.alternates(0, 1));
        Check.refuses("rule 10", Check.INDEX, () -> book.alternates(0, 10));
    }
}
