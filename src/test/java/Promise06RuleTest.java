/** Promise 6: rule. */
final class Promise06RuleTest {
    public static void main(String[] args) {
        Cases cases = new Cases("promise 6, rule");
        numbers(cases);
        fullBook(cases);
        asksForNothing(cases);
        cases.end();
    }

    private static PartBook withRules(int count) {
        PartBook book = new PartBook();
        for (int i = 0; i < count; i++) {
            book.rule();
        }
        return book;
    }

    private static void numbers(Cases cases) {
        cases.holds("rules are numbered from 0", () -> {
            PartBook book = new PartBook();
            for (int i = 0; i < 10; i++) {
                Check.same("rule", book.rule(), i);
            }
        });
        cases.holds("parts do not count as rules", () -> {
            PartBook book = new PartBook();
            book.part(0);
            book.part(0);
            Check.same("the first rule", book.rule(), 0);
            Check.same("the next part", book.part(0), 2);
        });
    }

    private static void fullBook(Cases cases) {
        cases.holds("the tenth rule is number 9", () -> {
            PartBook book = withRules(9);
            Check.same("the tenth", book.rule(), 9);
            Check.is("it asks", book.ask(9, 11, 0));
        });
        cases.holds("the eleventh rule is NONE", () -> {
            PartBook book = withRules(10);
            Check.same("the eleventh", book.rule(), -1);
            Check.same("the one behind", book.rule(), -1);
        });
        cases.holds("the eleventh rule leaves the ten as they were", () -> {
            PartBook book = withRules(10);
            book.ask(0, 3, 1);
            book.ask(9, 4, 2);
            book.rule();
            Check.refuses("rule 10", Check.INDEX, () -> book.ask(10, 0, 0));
            Check.not("rule 0 asks otherwise", book.ask(0, 3, 1));
            Check.not("rule 9 asks otherwise", book.ask(9, 4, 2));
        });
    }

    private static void asksForNothing(Cases cases) {
        cases.holds("a new rule asks for none of the 12 names", () -> {
            PartBook book = withRules(1);
            for (int name = 0; name < 12; name++) {
                book.ask(0, name, name % 3);
            }
            book.rule();
            for (int name = 0; name < 12; name++) {
                Check.not("name " + name + " was asked for", book.ask(1, name, -1));
            }
        });
        cases.holds("by a new rule all others are alternates", () -> {
            PartBook book = Books.of(0, 0, 0);
            Check.finds("parts without values", book, book.alternates(1, 0), 0, 2);
        });
    }
}
