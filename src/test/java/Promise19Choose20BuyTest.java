/** Promises 19 and 20: choose and buy; what the one tells, the other takes. */
final class Promise19Choose20BuyTest {
    private static final Cases CHOICES = new Cases("promise 19, choose");
    private static final Cases PURCHASES = new Cases("promise 20, buy");
    private static final long FIRST = Long.MIN_VALUE;
    private static final long LAST = Long.MAX_VALUE;

    public static void main(String[] args) {
        CHOICES.parts((book, part) -> book.choose(part, 0, 5, 5));
        PURCHASES.parts((book, part) -> book.buy(part, 0, 5, 5));
        CHOICES.rules((book, rule) -> book.choose(0, rule, 5, 5));
        PURCHASES.rules((book, rule) -> book.buy(0, rule, 5, 5));
        CHOICES.outside("quantity", 1, 10_000, Check.ARGUMENT, (book, n) -> book.choose(0, 0, n, 5));
        PURCHASES.outside("quantity", 1, 10_000, Check.ARGUMENT, (book, n) -> book.buy(0, 0, n, 5));
        CHOICES.refuses("no such part with a wrong quantity", Check.INDEX, book -> book.choose(3, 0, 0, 5));
        PURCHASES.refuses("no such part with a wrong quantity", Check.INDEX, book -> book.buy(3, 0, 0, 5));
        CHOICES.refuses("no such rule with a wrong quantity", Check.INDEX, book -> book.choose(0, 2, 0, 5));
        PURCHASES.refuses("no such rule with a wrong quantity", Check.INDEX, book -> book.buy(0, 2, 0, 5));
        states();
        days();
        leastCost();
        sameCost();
        alternates();
        quantities();
        leaves();
        untilNothingIsLeft();
        fullBook();
        CHOICES.tell();
        PURCHASES.tell();
        Check.end();
    }

    /** Three parts of makers 0 to 2, sold from day 0 on, a stock of 20, 10 cents a piece. */
    private static PartBook three() {
        PartBook book = Books.of(0, 1, 2);
        for (int part = 0; part < 3; part++) {
            book.stock(part, 20);
            book.price(part, 1, 10, 0);
            book.life(part, 0, 1);
        }
        return book;
    }

    /** What choose() tells of part 0 and 5 pieces on day 0, and how many of the three buy() leaves then. */
    private static void takes(String name, Cases.Use make, int chosen, int... left) {
        takesOf(5, 0, name, make, chosen, left);
    }

    private static void takesOf(int quantity, long day, String name, Cases.Use make, int chosen, int... left) {
        CHOICES.holds(name, () -> {
            PartBook book = three();
            make.on(book);
            Check.same("choose", book.choose(0, 0, quantity, day), chosen);
            Check.same("choose again", book.choose(0, 0, quantity, day), chosen);
        });
        PURCHASES.holds(name, () -> {
            PartBook book = three();
            make.on(book);
            int total = chosen == -1 ? -1 : book.best(chosen, quantity);
            Check.same("buy", book.buy(0, 0, quantity, day), total);
            for (int part = 0; part < 3; part++) {
                Check.not("part " + part + " has not " + left[part], book.stock(part, left[part]));
            }
        });
    }

    private static void states() {
        int[] due = {-1, 0, 0, -1};
        for (int s = 0; s <= 3; s++) {
            int state = s;
            takes("the part alone in state " + state, book -> {
                book.life(0, 0, state);
                book.stock(1, 0);
                book.stock(2, 0);
            }, due[state], due[state] == 0 ? 15 : 20, 0, 0);
            takes("an alternate alone in state " + state, book -> {
                book.life(2, 0, state);
                book.stock(0, 0);
                book.stock(1, 0);
            }, due[state] == 0 ? 2 : -1, 0, 0, due[state] == 0 ? 15 : 20);
        }
        takes("a cheaper one that is past", book -> {
            book.price(1, 1, 1, 0);
            book.life(1, 0, 3);
        }, 0, 15, 20, 20);
        takes("a cheaper one that is planned", book -> {
            book.price(1, 1, 1, 0);
            book.life(1, 0, 0);
        }, 0, 15, 20, 20);
        takes("a cheaper one of which these are the last ones", book -> {
            book.price(1, 1, 1, 0);
            book.life(1, 0, 2);
        }, 1, 20, 15, 20);
        takes("a part that is past has alternates", book -> book.life(0, 0, 3), 1, 20, 15, 20);
    }

    private static void days() {
        Cases.Use some = book -> {
            book.life(0, 10, 3);
            book.life(1, 20, 3);
            book.life(2, 30, 3);
        };
        takesOf(5, -1, "the day before any is sold", some, -1, 20, 20, 20);
        takesOf(5, 0, "the first day on which they are sold", some, 0, 15, 20, 20);
        takesOf(5, 9, "the last day on which the part is sold", some, 0, 15, 20, 20);
        takesOf(5, 10, "the day on which the part is past", some, 1, 20, 15, 20);
        takesOf(5, 29, "the last day on which any is sold", some, 2, 20, 20, 15);
        takesOf(5, 30, "the day on which all are past", some, -1, 20, 20, 20);
        takesOf(5, FIRST, "the first of all days, none told for it", some, -1, 20, 20, 20);
        takesOf(5, FIRST, "the first of all days", book -> book.life(1, FIRST, 1), 1, 20, 15, 20);
        takesOf(5, LAST, "the last of all days", book -> {
            book.life(0, LAST, 3);
            book.life(1, LAST - 1, 3);
        }, 2, 20, 20, 15);
    }

    private static void leastCost() {
        takes("a cheaper alternate", book -> book.price(2, 1, 9, 0), 2, 20, 20, 15);
        takes("the cheapest of three", book -> {
            book.price(1, 1, 8, 0);
            book.price(2, 1, 9, 0);
        }, 1, 20, 15, 20);
        takes("cheaper by the least there is", book -> {
            book.price(2, 1, 10, 3);
            book.rate(3, 999);
        }, 2, 20, 20, 15);
        takes("dearer by the least there is", book -> {
            book.stock(0, 0);
            book.price(1, 1, 10, 3);
            book.rate(3, 1001);
        }, 2, 0, 20, 15);
        takes("cheaper pieces in a pack that is too great", book -> {
            book.price(1, 1, 9, 0);
            book.pack(1, 6);
        }, 0, 15, 20, 20);
        takes("much cheaper pieces in a pack that is too great", book -> {
            book.price(1, 1, 8, 0);
            book.pack(1, 6);
        }, 1, 20, 14, 20);
        takes("more pieces that cost less", book -> {
            book.price(2, 20, 2, 0);
        }, 2, 20, 20, 0);
        takes("cheaper, whatever the places", book -> {
            book.maker(0, 0);
            book.maker(2, 99);
            book.price(2, 1, 9, 0);
        }, 2, 20, 20, 15);
    }

    private static void sameCost() {
        takes("of the same cost the part itself", book -> { }, 0, 15, 20, 20);
        takes("of the same cost the part itself, though it stands last", book -> {
            book.maker(0, 99);
            book.maker(1, 0);
        }, 0, 15, 20, 20);
        takes("of the same cost by places", book -> {
            book.stock(0, 0);
            book.maker(2, 49);
        }, 2, 0, 20, 15);
        takes("of the same cost and place by numbers", book -> book.stock(0, 0), 1, 0, 15, 20);
        takes("the same cost by other totals", book -> {
            book.stock(0, 0);
            book.price(2, 10, 5, 0);
            book.price(2, 1, 1000, 0);
            book.maker(2, 0);
        }, 2, 0, 20, 10);
        CHOICES.holds("of the same cost the part itself, though its number is the last", () ->
                Check.same("choose", three().choose(2, 0, 5, 0), 2));
        PURCHASES.holds("of the same cost the part itself, though its number is the last", () -> {
            PartBook book = three();
            Check.same("buy", book.buy(2, 0, 5, 0), 5);
            Check.not("part 2 has not 15", book.stock(2, 15));
            Check.not("part 0 has not 20", book.stock(0, 20));
        });
    }

    private static void alternates() {
        Cases.Use values = book -> {
            book.value(0, 0, 7, 1, 0);
            book.value(1, 0, 6, 1, 0);
            book.value(2, 0, 8, 1, 0);
            book.price(1, 1, 1, 0);
            book.price(2, 1, 5, 0);
        };
        takes("a cheap one that is no alternate", book -> {
            values.on(book);
            book.ask(0, 0, 1);
        }, 2, 20, 20, 15);
        takes("without alternates the part itself", book -> {
            values.on(book);
            book.ask(0, 0, 0);
        }, 0, 15, 20, 20);
        takes("the part itself may be without the value asked for", book -> {
            values.on(book);
            book.ask(0, 11, 2);
        }, 0, 15, 20, 20);
        takes("the rule that is told alone counts", book -> {
            values.on(book);
            book.rule();
            book.ask(1, 0, 0);
        }, 1, 20, 15, 20);
    }

    private static void quantities() {
        takesOf(1, 0, "quantity 1, the least one", book -> { }, 0, 19, 20, 20);
        takesOf(20, 0, "a quantity of just the stock", book -> { }, 0, 0, 20, 20);
        takesOf(21, 0, "NONE when the quantity is one above every stock", book -> { }, -1, 20, 20, 20);
        takesOf(21, 0, "an alternate alone has enough", book -> book.stock(2, 21), 2, 20, 20, 0);
        takesOf(10_000, 0, "quantity 10,000, the greatest one", book -> book.stock(1, 20_000), 1, 20, 10_000, 20);
        takes("NONE when the least pack of each is above its stock", book -> {
            for (int part = 0; part < 3; part++) {
                book.pack(part, 21);
            }
        }, -1, 20, 20, 20);
        takes("a cheaper one of which there is no stock", book -> {
            book.price(1, 1, 1, 0);
            book.stock(1, 4);
        }, 0, 15, 4, 20);
        takes("a whole pack is taken of stock", book -> {
            book.pack(0, 18);
            book.stock(1, 0);
            book.stock(2, 0);
        }, 0, 2, 0, 0);
    }

    private static void leaves() {
        CHOICES.holds("it leaves all as it was", () -> {
            PartBook book = Books.furnished();
            Check.same("choose", book.choose(0, 0, 5, 5), 0);
            Check.same("what is left", Books.answers(book), Books.answers(Books.furnished()));
        });
        PURCHASES.holds("it leaves all but the stock as it was", () -> {
            PartBook book = Books.furnished();
            Check.same("buy", book.buy(0, 0, 5, 5), 7);
            Check.is("the stock was another one", book.stock(0, 100));
            Check.same("what is left", Books.answers(book), Books.answers(Books.furnished()));
        });
        PURCHASES.holds("NONE leaves all as it was", () -> {
            PartBook book = Books.furnished();
            Check.same("buy", book.buy(0, 0, 10_000, 5), -1);
            Check.same("what is left", Books.answers(book), Books.answers(Books.furnished()));
        });
    }

    private static void untilNothingIsLeft() {
        PURCHASES.holds("what is bought can't be had again", () -> {
            PartBook book = three();
            book.price(1, 1, 9, 0);
            Check.same("15 of part 1", book.buy(0, 0, 15, 0), 15);
            Check.not("part 1 has not 5", book.stock(1, 5));
            Check.same("6 of part 0", book.buy(0, 0, 6, 0), 6);
            Check.not("part 0 has not 14", book.stock(0, 14));
            Check.same("5 of part 1", book.buy(0, 0, 5, 0), 5);
            Check.not("part 1 has not 0", book.stock(1, 0));
            Check.same("20 of part 2", book.buy(0, 0, 20, 0), 20);
            Check.same("14 of part 0", book.buy(0, 0, 14, 0), 14);
            Check.same("nothing", book.buy(0, 0, 1, 0), -1);
            Check.same("no choice", book.choose(0, 0, 1, 0), -1);
        });
        PURCHASES.holds("less than a pack stays in stock", () -> {
            PartBook book = Books.stocked(20);
            book.life(0, 0, 1);
            book.pack(0, 6);
            for (int left = 14; left >= 2; left -= 6) {
                Check.same("a pack", book.buy(0, 0, 1, 0), 6);
                Check.not("it has not " + left, book.stock(0, left));
            }
            Check.same("no pack", book.buy(0, 0, 1, 0), -1);
            Check.not("it has not 2", book.stock(0, 2));
        });
    }

    /** 40 parts of which the last one is the cheapest. */
    private static PartBook forty() {
        PartBook book = Books.full();
        for (int part = 0; part < 40; part++) {
            book.stock(part, 9);
            book.price(part, 1, 50 - part, 0);
            book.life(part, 0, 1);
        }
        return book;
    }

    private static void fullBook() {
        CHOICES.holds("NONE of a part without anything", () -> {
            Check.same("choose", Books.of(0).choose(0, 0, 1, 0), -1);
        });
        PURCHASES.holds("NONE of a part without anything", () -> {
            Check.same("buy", Books.of(0).buy(0, 0, 1, 0), -1);
        });
        CHOICES.holds("the last of 40", () -> {
            PartBook book = forty();
            Check.same("of the first", book.choose(0, 9, 9, 0), 39);
            Check.same("of the last", book.choose(39, 9, 9, 0), 39);
        });
        PURCHASES.holds("the last of 40", () -> {
            PartBook book = forty();
            Check.same("buy", book.buy(0, 9, 9, 0), 9);
            Check.not("part 39 has not 0", book.stock(39, 0));
            Check.same("the next choice", book.choose(0, 9, 9, 0), 38);
        });
    }
}
