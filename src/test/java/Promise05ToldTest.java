/** Promise 5: told. */
final class Promise05ToldTest {
    private static final long TOP = 1_000_000_000L;
    private static final long BOTTOM = 1_000_000L;

    public static void main(String[] args) {
        Cases cases = new Cases("promise 5, told");
        cases.parts((book, part) -> book.told(part, 0, 0));
        cases.names((book, name) -> book.told(0, name, 0));
        cases.outside("what", 0, 1, Check.INDEX, (book, what) -> book.told(0, 0, what));
        cases.refuses("a wrong what of a name without a value", Check.INDEX, book -> book.told(0, 5, 2));
        none(cases);
        lowestTerms(cases);
        latest(cases);
        cases.end();
    }

    private static void none(Cases cases) {
        cases.holds("what 0 is NONE where there is no value", () -> none(0));
        cases.holds("what 1 is NONE where there is no value", () -> none(1));
    }

    private static void none(int what) {
        PartBook book = Books.of(0, 0);
        book.value(1, 4, 5, 7, 0);
        for (int name = 0; name < 12; name++) {
            Check.same("name " + name, book.told(0, name, what), -1);
        }
    }

    private static void tells(Cases cases, String name, long[] value, long above, long below) {
        PartBook book = Books.of(0);
        book.value(0, 11, value[0], value[1], (int) value[2]);
        cases.holds(name + ", above", () -> Check.same("what 0", book.told(0, 11, 0), above));
        cases.holds(name + ", below", () -> Check.same("what 1", book.told(0, 11, 1), below));
    }

    private static void lowestTerms(Cases cases) {
        tells(cases, "lowest terms as they are", new long[] {3, 4, 0}, 3, 4);
        tells(cases, "6 / 4 in lowest terms", new long[] {6, 4, 0}, 3, 2);
        tells(cases, "a whole number has 1 below", new long[] {12, 4, 0}, 3, 1);
        tells(cases, "a unit above 0 cancels with below", new long[] {3, 4, 2}, 75, 1);
        tells(cases, "a unit above 0 beside below", new long[] {1, 3, 1}, 10, 3);
        tells(cases, "a unit below 0 cancels with above", new long[] {500, 3, -2}, 5, 3);
        tells(cases, "a unit below 0 beside above", new long[] {47, 10, -6}, 47, 10_000_000);
        tells(cases, "0 is 0 / 1", new long[] {0, 7, 0}, 0, 1);
        tells(cases, "0 with the greatest unit is 0 / 1", new long[] {0, BOTTOM, 9}, 0, 1);
        tells(cases, "0 with the least unit is 0 / 1", new long[] {0, BOTTOM, -9}, 0, 1);
        tells(cases, "the greatest value", new long[] {TOP, 1, 9}, TOP * TOP, 1);
        tells(cases, "the least value above 0", new long[] {1, BOTTOM, -9}, 1, TOP * BOTTOM);
        tells(cases, "the greatest numbers with unit -9", new long[] {TOP, BOTTOM, -9}, 1, BOTTOM);
        tells(cases, "the greatest numbers with unit 9", new long[] {TOP, BOTTOM, 9}, TOP * 1000, 1);
        tells(cases, "a prime below", new long[] {TOP, 999_983, 9}, TOP * TOP, 999_983);
        tells(cases, "the longest way to lowest terms", new long[] {832_040, 514_229, 0}, 832_040, 514_229);
    }

    private static void latest(Cases cases) {
        cases.holds("a value that is told anew takes the place of what was", () -> {
            PartBook book = Books.of(0);
            book.value(0, 2, 7, 9, 0);
            book.value(0, 2, 1, 2, 0);
            Check.same("above", book.told(0, 2, 0), 1);
            Check.same("below", book.told(0, 2, 1), 2);
        });
        cases.holds("a refused value leaves what was", () -> {
            PartBook book = Books.of(0);
            book.value(0, 2, 7, 9, 0);
            Check.refuses("below 0", Check.ARGUMENT, () -> book.value(0, 2, 1, 0, 0));
            Check.same("above", book.told(0, 2, 0), 7);
            Check.same("below", book.told(0, 2, 1), 9);
        });
    }
}
