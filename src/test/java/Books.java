/** The books that cases begin with, and all that can be asked of one. */
final class Books {
    /** How many parts and rules the furnished book has. */
    static final int PARTS = 3;
    static final int RULES = 2;

    private static final long TOP = 1_000_000_000L;
    private static final long[] DAYS = {Long.MIN_VALUE, -5, -1, 0, 5, 10, 20, Long.MAX_VALUE};
    private static final int[] QUANTITIES = {1, 5, 9, 26, 31, 10_000};
    private static final int[] STOCKS = {100, 30, 0};
    private static final int[] RATES = {1000, 900, 1000, 5000};

    private Books() {
    }

    /** Parts of these makers, and a rule that asks for nothing. */
    static PartBook of(int... makers) {
        PartBook book = new PartBook();
        for (int maker : makers) {
            book.part(maker);
        }
        book.rule();
        return book;
    }

    /** 40 parts, 10 rules. */
    static PartBook full() {
        PartBook book = new PartBook();
        for (int i = 0; i < 40; i++) {
            book.part(i % 16);
        }
        for (int i = 0; i < 10; i++) {
            book.rule();
        }
        return book;
    }

    /** One part with a stock, 1 cent a piece from the first one on. */
    static PartBook stocked(int stock) {
        PartBook book = of(0);
        book.stock(0, stock);
        book.price(0, 1, 1, 0);
        return book;
    }

    /** Something of everything, and room for more in every table. */
    static PartBook furnished() {
        PartBook book = of(5, 6, 5);
        book.rule();
        book.maker(5, 60);
        book.maker(6, 40);
        book.value(0, 0, 1, 2, 0);
        book.value(1, 0, 2, 3, 0);
        book.value(2, 0, 1, 2, 0);
        book.value(0, 11, 3, 1, -9);
        book.value(1, 11, 3, 1, -9);
        book.ask(0, 0, 1);
        book.ask(1, 0, 2);
        book.ask(1, 11, 0);
        book.price(0, 1, 50, 0);
        book.price(0, 25, 18, 1);
        book.price(1, 10, 7, 3);
        book.rate(1, 900);
        book.rate(3, 5000);
        book.pack(0, 7);
        book.pack(0, 12);
        book.stock(0, 100);
        book.stock(1, 30);
        book.life(0, 0, 1);
        book.life(0, 10, 2);
        book.life(0, 20, 3);
        book.life(1, -5, 1);
        book.search(0, 1, 2, 1, 1);
        return book;
    }

    /** What a furnished book answers to all that can be asked of it; it is used up by that. */
    static String answers(PartBook book) {
        StringBuilder text = new StringBuilder();
        tellFound(book, text);
        tellParts(book, text);
        tellChoices(book, text);
        tellRest(book, text);
        tellRoom(book, text);
        return text.toString();
    }

    private static void tellFound(PartBook book, StringBuilder text) {
        for (int k = -1; k <= PARTS; k++) {
            text.append(book.found(k)).append(' ');
        }
    }

    private static void tellParts(PartBook book, StringBuilder text) {
        for (int part = 0; part < PARTS; part++) {
            for (int name = 0; name < 12; name++) {
                text.append(book.told(part, name, 0)).append('/').append(book.told(part, name, 1)).append(' ');
            }
            for (long day : DAYS) {
                text.append(book.state(part, day)).append(' ');
            }
            for (int quantity : QUANTITIES) {
                text.append(book.best(part, quantity)).append(':').append(book.cost(part, quantity)).append(' ');
            }
            text.append(book.derate(part, 0, 1, 4, 50)).append('\n');
        }
    }

    private static void tellChoices(PartBook book, StringBuilder text) {
        for (int part = 0; part < PARTS; part++) {
            for (int rule = 0; rule < RULES; rule++) {
                text.append(book.choose(part, rule, 5, 5)).append(' ');
                text.append(book.alternates(part, rule)).append(' ');
                tellFound(book, text);
            }
        }
        text.append(book.search(11, 0, 1, TOP, 1)).append(' ');
        tellFound(book, text);
    }

    /** Told anew as it was told before, nothing is another one. */
    private static void tellRest(PartBook book, StringBuilder text) {
        text.append(book.maker(5, 60)).append(book.maker(6, 40));
        for (int maker = 0; maker < 16; maker++) {
            text.append(' ').append(book.maker(maker, 50));
        }
        for (int currency = 0; currency < 4; currency++) {
            text.append(' ').append(book.rate(currency, RATES[currency]));
        }
        for (int part = 0; part < PARTS; part++) {
            text.append(' ').append(book.stock(part, STOCKS[part]));
        }
        for (int rule = 0; rule < RULES; rule++) {
            for (int name = 0; name < 12; name++) {
                text.append(' ').append(book.ask(rule, name, -1));
            }
        }
        text.append('\n');
    }

    /** How much more goes into each table. */
    private static void tellRoom(PartBook book, StringBuilder text) {
        for (int part = 0; part < PARTS; part++) {
            for (int i = 1; i <= 8; i++) {
                text.append(book.price(part, 9000 + i, 1, 0)).append(' ').append(book.life(part, 9000 + i, 1));
            }
            for (int i = 1; i <= 6; i++) {
                text.append(' ').append(book.pack(part, 900 + i));
            }
        }
        text.append(book.part(0)).append(' ').append(book.rule());
    }
}
