/** Promise 16: state. */
final class Promise16StateTest {
    private static final long FIRST = Long.MIN_VALUE;
    private static final long LAST = Long.MAX_VALUE;

    public static void main(String[] args) {
        Cases cases = new Cases("promise 16, state");
        cases.parts((book, part) -> book.state(part, 0));
        without(cases);
        ofADay(cases);
        ends(cases);
        cases.end();
    }

    private static void without(Cases cases) {
        long[] any = {FIRST, -1, 0, 1, LAST};
        for (long day : any) {
            cases.holds("0 without a told day, on day " + day, () -> {
                PartBook book = Books.of(0, 0);
                book.life(1, day, 3);
                Check.same("state", book.state(0, day), 0);
            });
        }
    }

    private static void on(Cases cases, String name, long day, int due) {
        cases.holds(name, () -> {
            PartBook book = Books.of(0);
            book.life(0, 20, 3);
            book.life(0, -10, 1);
            book.life(0, 10, 2);
            Check.same("state", book.state(0, day), due);
        });
    }

    private static void ofADay(Cases cases) {
        on(cases, "0 on the first of all days", FIRST, 0);
        on(cases, "0 on the day before the first told one", -11, 0);
        on(cases, "the first told day itself", -10, 1);
        on(cases, "the day behind it", -9, 1);
        on(cases, "the day before the next told one", 9, 1);
        on(cases, "the next told day itself", 10, 2);
        on(cases, "the day before the last told one", 19, 2);
        on(cases, "the last told day itself", 20, 3);
        on(cases, "the last of all days", LAST, 3);
    }

    private static void ends(Cases cases) {
        cases.holds("a state from the first of all days on holds on every day", () -> {
            PartBook book = Books.of(0);
            book.life(0, FIRST, 1);
            Check.same("the first day", book.state(0, FIRST), 1);
            Check.same("the second day", book.state(0, FIRST + 1), 1);
            Check.same("the last day", book.state(0, LAST), 1);
        });
        cases.holds("a state from the last of all days on holds on that day alone", () -> {
            PartBook book = Books.of(0);
            book.life(0, LAST, 1);
            Check.same("the day before", book.state(0, LAST - 1), 0);
            Check.same("the last day", book.state(0, LAST), 1);
        });
        cases.holds("a told state 0 ends the one before", () -> {
            PartBook book = Books.of(0);
            book.life(0, 1, 2);
            book.life(0, 5, 0);
            Check.same("day 4", book.state(0, 4), 2);
            Check.same("day 5", book.state(0, 5), 0);
            Check.same("day 6", book.state(0, 6), 0);
        });
        cases.holds("days are not cut to an int", () -> {
            PartBook book = Books.of(0);
            book.life(0, 5, 1);
            Check.same("day 2^32", book.state(0, 1L << 32), 1);
            Check.same("day 6 - 2^32", book.state(0, 6 - (1L << 32)), 0);
        });
    }
}
