/** Promises 4, 5 and 21: value, told, derate. */
final class ValuesTest {
    private static final long TOP = 1_000_000_000L;
    private static final long BOTTOM = 1_000_000L;

    public static void main(String[] args) {
        lowestTerms();
        wasAnother();
        wrongValues();
        wrongTold();
        derating();
        derateAtTheEdges();
        wrongDerates();
        Check.end();
    }

    private static PartBook onePart() {
        PartBook book = new PartBook();
        book.part(0);
        return book;
    }

    private static void tells(PartBook book, long above, long below, int unit, long top, long bottom) {
        String what = above + "/" + below + "e" + unit;
        book.value(0, 5, above, below, unit);
        Check.same(what + " above", book.told(0, 5, 0), top);
        Check.same(what + " below", book.told(0, 5, 1), bottom);
    }

    private static void lowestTerms() {
        PartBook book = onePart();
        tells(book, 47, 10, -6, 47, 10_000_000);
        tells(book, 6, 4, 0, 3, 2);
        tells(book, 3, 4, 2, 75, 1);
        tells(book, 1, 3, 1, 10, 3);
        tells(book, 0, 7, 9, 0, 1);
        tells(book, 0, BOTTOM, -9, 0, 1);
        tells(book, TOP, 1, 9, 1_000_000_000_000_000_000L, 1);
        tells(book, 1, BOTTOM, -9, 1, 1_000_000_000_000_000L);
        tells(book, 999_999_999, 999_998, -9, 999_999_999L, 999_998_000_000_000L);
        tells(book, 999_999_937, 7, 9, 999_999_937_000_000_000L, 7);
        tells(book, TOP, BOTTOM, -9, 1, 1_000_000);
        tells(book, TOP, BOTTOM, 9, 1_000_000_000_000L, 1);
    }

    private static void wasAnother() {
        PartBook book = onePart();
        Check.is("the first value", book.value(0, 0, 0, 1, 0));
        Check.not("zero again", book.value(0, 0, 0, 9, 5));
        Check.is("another value", book.value(0, 0, 1, 2, 0));
        Check.not("the same one in other terms", book.value(0, 0, 5, 1, -1));
        Check.not("the same one in other terms", book.value(0, 0, 500_000, 1_000_000, 0));
        Check.is("the same above, another below", book.value(0, 0, 1, 3, 0));
        Check.is("another above, the same below", book.value(0, 0, 2, 3, 0));
        Check.same("another name has none", book.told(0, 1, 0), -1);
        Check.same("another name has none", book.told(0, 1, 1), -1);
        Check.is("the last name", book.value(0, 11, 1, 1, 0));
    }

    private static void wrongValues() {
        PartBook book = onePart();
        book.value(0, 0, 3, 4, 0);
        Check.refuses("part -1", Check.INDEX, () -> book.value(-1, 0, 1, 1, 0));
        Check.refuses("part 1", Check.INDEX, () -> book.value(1, 0, 1, 1, 0));
        Check.refuses("name -1", Check.INDEX, () -> book.value(0, -1, 1, 1, 0));
        Check.refuses("name 12", Check.INDEX, () -> book.value(0, 12, 1, 1, 0));
        Check.refuses("above -1", Check.ARGUMENT, () -> book.value(0, 0, -1, 1, 0));
        Check.refuses("above too great", Check.ARGUMENT, () -> book.value(0, 0, TOP + 1, 1, 0));
        Check.refuses("above MIN", Check.ARGUMENT, () -> book.value(0, 0, Long.MIN_VALUE, 1, 0));
        Check.refuses("below 0", Check.ARGUMENT, () -> book.value(0, 0, 1, 0, 0));
        Check.refuses("below -1", Check.ARGUMENT, () -> book.value(0, 0, 1, -1, 0));
        Check.refuses("below too great", Check.ARGUMENT, () -> book.value(0, 0, 1, BOTTOM + 1, 0));
        Check.refuses("unit -10", Check.ARGUMENT, () -> book.value(0, 0, 1, 1, -10));
        Check.refuses("unit 10", Check.ARGUMENT, () -> book.value(0, 0, 1, 1, 10));
        Check.refuses("part and number", Check.INDEX, () -> book.value(1, 0, 1, 0, 0));
        Check.refuses("name and number", Check.INDEX, () -> book.value(0, 12, -1, 1, 0));
        Check.same("a refused value changes nothing", book.told(0, 0, 0), 3);
    }

    private static void wrongTold() {
        PartBook book = onePart();
        Check.refuses("part -1", Check.INDEX, () -> book.told(-1, 0, 0));
        Check.refuses("part 1", Check.INDEX, () -> book.told(1, 0, 0));
        Check.refuses("name -1", Check.INDEX, () -> book.told(0, -1, 0));
        Check.refuses("name 12", Check.INDEX, () -> book.told(0, 12, 0));
        Check.refuses("what -1", Check.INDEX, () -> book.told(0, 0, -1));
        Check.refuses("what 2", Check.INDEX, () -> book.told(0, 0, 2));
    }

    private static void derating() {
        PartBook book = onePart();
        Check.same("no value", book.derate(0, 0, 0, 1, 100), -1);
        book.value(0, 0, 47, 10, 0);
        Check.same("just half", book.derate(0, 0, 235, 100, 50), 1);
        Check.same("a little above half", book.derate(0, 0, 235_001, 100_000, 50), 0);
        Check.same("a little below half", book.derate(0, 0, 234_999, 100_000, 50), 1);
        Check.same("just all", book.derate(0, 0, 47, 10, 100), 1);
        Check.same("all at 99", book.derate(0, 0, 47, 10, 99), 0);
        Check.same("nothing", book.derate(0, 0, 0, 1, 1), 1);
        book.value(0, 1, 0, 1, 0);
        Check.same("nothing of nothing", book.derate(0, 1, 0, 1, 1), 1);
        Check.same("something of nothing", book.derate(0, 1, 1, 1_000_000, 100), 0);
    }

    private static void derateAtTheEdges() {
        PartBook book = onePart();
        book.value(0, 0, TOP, 1, 9);
        Check.same("the greatest value", book.derate(0, 0, TOP, 1, 1), 1);
        book.value(0, 0, 1, BOTTOM, -9);
        Check.same("the least value", book.derate(0, 0, 1, BOTTOM, 100), 0);
        book.value(0, 0, TOP, 1, 2);
        Check.same("1% of the greatest", book.derate(0, 0, TOP, 1, 1), 1);
        book.value(0, 0, 999_999_999, 1, 2);
        Check.same("1% of a little less", book.derate(0, 0, TOP, 1, 1), 0);
        Check.same("2% of a little less", book.derate(0, 0, TOP, 1, 2), 1);
    }

    private static void wrongDerates() {
        PartBook book = onePart();
        Check.refuses("part -1", Check.INDEX, () -> book.derate(-1, 0, 1, 1, 1));
        Check.refuses("part 1", Check.INDEX, () -> book.derate(1, 0, 1, 1, 1));
        Check.refuses("name -1", Check.INDEX, () -> book.derate(0, -1, 1, 1, 1));
        Check.refuses("name 12", Check.INDEX, () -> book.derate(0, 12, 1, 1, 1));
        Check.refuses("a -1", Check.ARGUMENT, () -> book.derate(0, 0, -1, 1, 1));
        Check.refuses("a too great", Check.ARGUMENT, () -> book.derate(0, 0, TOP + 1, 1, 1));
        Check.refuses("b 0", Check.ARGUMENT, () -> book.derate(0, 0, 1, 0, 1));
        Check.refuses("b too great", Check.ARGUMENT, () -> book.derate(0, 0, 1, BOTTOM + 1, 1));
        Check.refuses("percent 0", Check.ARGUMENT, () -> book.derate(0, 0, 1, 1, 0));
        Check.refuses("percent 101", Check.ARGUMENT, () -> book.derate(0, 0, 1, 1, 101));
        Check.refuses("name and number", Check.INDEX, () -> book.derate(0, 12, 1, 0, 0));
    }
}
