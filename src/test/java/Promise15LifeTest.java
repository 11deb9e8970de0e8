/** Promise 15: life. */
final class Promise15LifeTest {
    private static final long FIRST = Long.MIN_VALUE;
    private static final long LAST = Long.MAX_VALUE;

    public static void main(String[] args) {
        Cases cases = new Cases("promise 15, life");
        cases.parts((book, part) -> book.life(part, 5, 3));
        cases.outside("state", 0, 3, Check.ARGUMENT, (book, state) -> book.life(0, 5, state));
        cases.refuses("a wrong state of a told day", Check.ARGUMENT, book -> book.life(0, 10, 4));
        cases.refuses("no such part with a wrong state", Check.INDEX, book -> book.life(3, 0, 4));
        states(cases);
        days(cases);
        takesThePlace(cases);
        eight(cases);
        ninth(cases);
        others(cases);
        cases.end();
    }

    private static void states(Cases cases) {
        for (int s = 0; s <= 3; s++) {
            int state = s;
            cases.holds("state " + state + " is taken", () -> {
                PartBook book = Books.of(0);
                book.life(0, 0, 3 - state);
                Check.is("it", book.life(0, 4, state));
                Check.same("the state then", book.state(0, 4), state);
            });
        }
        cases.holds("state 0 is told though it is 0 without", () -> {
            PartBook book = Books.of(0);
            Check.is("it", book.life(0, 4, 0));
            Check.not("it again", book.life(0, 4, 0));
        });
    }

    private static void days(Cases cases) {
        long[] any = {FIRST, FIRST + 1, -1, 0, 1, 1L << 32, LAST - 1, LAST};
        for (long day : any) {
            cases.holds("day " + day + " is taken", () -> {
                PartBook book = Books.of(0);
                Check.is("it", book.life(0, day, 2));
                Check.not("it again", book.life(0, day, 2));
                Check.same("the state then", book.state(0, day), 2);
                Check.same("the last state", book.state(0, LAST), 2);
                Check.same("the first state", book.state(0, FIRST), day == FIRST ? 2 : 0);
            });
        }
        cases.holds("days that an int can't tell apart are apart", () -> {
            PartBook book = Books.of(0);
            Check.is("day 0", book.life(0, 0, 1));
            Check.is("day 2^32", book.life(0, 1L << 32, 1));
            Check.is("day -2^32", book.life(0, -1L << 32, 1));
        });
        cases.holds("the first day and the last one stand in their order", () -> {
            PartBook book = Books.of(0);
            book.life(0, LAST, 3);
            book.life(0, FIRST, 2);
            book.life(0, 0, 1);
            Check.same("the first day", book.state(0, FIRST), 2);
            Check.same("before day 0", book.state(0, -1), 2);
            Check.same("before the last day", book.state(0, LAST - 1), 1);
            Check.same("the last day", book.state(0, LAST), 3);
        });
    }

    private static void takesThePlace(Cases cases) {
        cases.holds("a day that is told so is false", () -> {
            PartBook book = Books.of(0);
            book.life(0, 4, 2);
            Check.not("it", book.life(0, 4, 2));
            Check.same("the state then", book.state(0, 4), 2);
        });
        cases.holds("a day told anew takes the place of what was", () -> {
            PartBook book = Books.of(0);
            book.life(0, 4, 2);
            Check.is("it", book.life(0, 4, 3));
            Check.same("the state then", book.state(0, 4), 3);
            Check.is("as it was", book.life(0, 4, 2));
        });
        cases.holds("the same state from the next day on is told, too", () -> {
            PartBook book = Books.of(0);
            book.life(0, 4, 2);
            Check.is("it", book.life(0, 5, 2));
        });
        cases.holds("what was does not count among the eight", () -> {
            PartBook book = Books.of(0);
            for (int i = 0; i < 9; i++) {
                Check.is("time " + i, book.life(0, 4, i % 2));
            }
            for (int day = 5; day <= 11; day++) {
                Check.is("day " + day, book.life(0, day, 1));
            }
            Check.not("the ninth", book.life(0, 12, 1));
        });
    }

    /** States 1, 2, 3, 0, 1 .. from the days 10, 20, .. 80 on, told in no order. */
    private static PartBook withEight() {
        PartBook book = Books.of(0);
        int[] order = {5, 1, 8, 3, 7, 2, 6, 4};
        for (int i : order) {
            book.life(0, i * 10, i % 4);
        }
        return book;
    }

    private static void statesOfEight(PartBook book) {
        Check.same("day 9", book.state(0, 9), 0);
        for (int i = 1; i <= 8; i++) {
            Check.same("day " + i * 10, book.state(0, i * 10), i % 4);
            Check.same("day " + (i * 10 + 9), book.state(0, i * 10 + 9), i % 4);
        }
        Check.same("the last day", book.state(0, LAST), 0);
        Check.same("the first day", book.state(0, FIRST), 0);
    }

    private static void eight(Cases cases) {
        cases.holds("the eighth day is taken", () -> {
            PartBook book = Books.of(0);
            for (int i = 1; i <= 8; i++) {
                Check.is("day " + i, book.life(0, i, i % 4));
            }
        });
        cases.holds("eight days count, each from its beginning on", () -> statesOfEight(withEight()));
        cases.holds("one of eight told so again is false", () -> {
            PartBook book = withEight();
            for (int i = 1; i <= 8; i++) {
                Check.not("day " + i * 10, book.life(0, i * 10, i % 4));
            }
            statesOfEight(book);
        });
        cases.holds("each of eight may be told anew", () -> {
            PartBook book = withEight();
            for (int i = 1; i <= 8; i++) {
                Check.is("day " + i * 10, book.life(0, i * 10, (i + 1) % 4));
                Check.same("its state", book.state(0, i * 10), (i + 1) % 4);
            }
        });
    }

    private static void ninth(Cases cases) {
        long[] days = {FIRST, 9, 11, 45, 79, 81, LAST};
        for (long day : days) {
            cases.holds("a ninth day, " + day + ", is false and leaves the eight", () -> {
                PartBook book = withEight();
                for (int state = 0; state <= 3; state++) {
                    Check.not("state " + state, book.life(0, day, state));
                }
                statesOfEight(book);
            });
        }
    }

    private static void others(Cases cases) {
        cases.holds("each part has its own eight", () -> {
            PartBook book = Books.of(0, 0);
            for (int i = 1; i <= 8; i++) {
                Check.is("part 0", book.life(0, i, 1));
                Check.is("part 1", book.life(1, i, 2));
            }
            Check.same("part 0", book.state(0, 8), 1);
            Check.same("part 1", book.state(1, 8), 2);
        });
    }
}
