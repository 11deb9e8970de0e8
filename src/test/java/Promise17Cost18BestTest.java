/** Promises 17 and 18: cost and best, which tell the two sides of the same BEST T. */
final class Promise17Cost18BestTest {
    private static final Cases COSTS = new Cases("promise 17, cost");
    private static final Cases BESTS = new Cases("promise 18, best");

    public static void main(String[] args) {
        COSTS.parts((book, part) -> book.cost(part, 1));
        BESTS.parts((book, part) -> book.best(part, 1));
        COSTS.outside("quantity", 1, 10_000, Check.ARGUMENT, (book, quantity) -> book.cost(0, quantity));
        BESTS.outside("quantity", 1, 10_000, Check.ARGUMENT, (book, quantity) -> book.best(0, quantity));
        COSTS.refuses("no such part with a wrong quantity", Check.INDEX, book -> book.cost(3, 0));
        BESTS.refuses("no such part with a wrong quantity", Check.INDEX, book -> book.best(3, 0));
        quantities();
        none();
        beginnings();
        stocks();
        packs();
        sameCost();
        currencies();
        ends();
        COSTS.tell();
        BESTS.tell();
        Check.end();
    }

    /** Of a part 0 that is made so: the BEST T of a quantity and what it costs. */
    private static void had(String name, Cases.Use make, int quantity, int total, long cost) {
        PartBook book = Books.of(0);
        make.on(book);
        COSTS.holds(name, () -> {
            Check.same("cost", book.cost(0, quantity), cost);
            Check.same("cost again", book.cost(0, quantity), cost);
        });
        BESTS.holds(name, () -> {
            Check.same("best", book.best(0, quantity), total);
            Check.same("best again", book.best(0, quantity), total);
        });
    }

    private static Cases.Use sold(int stock, int from, long cents) {
        return book -> {
            book.stock(0, stock);
            book.price(0, from, cents, 0);
        };
    }

    private static void quantities() {
        had("quantity 1, the least one, is taken", sold(20_000, 1, 7), 1, 1, 7000);
        had("quantity 10,000, the greatest one, is taken", sold(20_000, 1, 7), 10_000, 10_000, 70_000_000);
    }

    private static void none() {
        had("NONE of a part without anything", book -> { }, 1, -1, -1);
        had("NONE without a price", book -> book.stock(0, 20_000), 1, -1, -1);
        had("NONE without stock", book -> book.price(0, 1, 1, 0), 1, -1, -1);
        had("NONE when the quantity is one above the stock", sold(7, 1, 1), 8, -1, -1);
        had("NONE when all prices begin above the stock", sold(9, 10, 1), 1, -1, -1);
        had("NONE when the least pack is above the stock", book -> {
            sold(11, 1, 1).on(book);
            book.pack(0, 12);
        }, 1, -1, -1);
        had("NONE when no sum of packs is from the quantity to the stock", book -> {
            sold(29, 1, 1).on(book);
            book.pack(0, 10);
            book.pack(0, 15);
        }, 26, -1, -1);
        had("NONE when no sum of packs is from the first beginning to the stock", book -> {
            sold(29, 26, 1).on(book);
            book.pack(0, 10);
            book.pack(0, 15);
        }, 1, -1, -1);
    }

    private static void beginnings() {
        had("a quantity below the first beginning", sold(100, 10, 3), 9, 10, 30_000);
        had("a quantity at the first beginning", sold(100, 10, 3), 10, 10, 30_000);
        had("a quantity above the first beginning", sold(100, 10, 3), 11, 11, 33_000);
        Cases.Use rising = book -> {
            sold(500, 1, 3).on(book);
            book.price(0, 100, 9, 0);
        };
        had("one below a beginning has the price before", rising, 99, 99, 297_000);
        had("a beginning has its own price", rising, 100, 100, 900_000);
        had("far behind a beginning its price still holds", rising, 500, 500, 4_500_000);
        Cases.Use falling = book -> {
            sold(100, 1, 50).on(book);
            book.price(0, 25, 18, 0);
        };
        had("fewer pieces cost less than the next beginning", falling, 8, 8, 400_000);
        had("more pieces cost less: the next beginning", falling, 10, 25, 450_000);
        had("one below the beginning it is the beginning", falling, 24, 25, 450_000);
        had("one above the beginning it is the quantity", falling, 26, 26, 468_000);
        for (int i = 1; i <= 8; i++) {
            int cheap = i * 10;
            had("of eight prices the one from " + cheap + " on is cheap", book -> {
                book.stock(0, 100);
                for (int from = 10; from <= 80; from += 10) {
                    book.price(0, from, from == cheap ? 1 : 100, 0);
                }
            }, 1, cheap, cheap * 1000);
        }
    }

    private static void stocks() {
        had("a quantity of just the stock", sold(7, 1, 2), 7, 7, 14_000);
        had("a stock of 1", sold(1, 1, 2), 1, 1, 2000);
        had("the first beginning is just the stock", sold(10, 10, 2), 1, 10, 20_000);
        had("the cheaper beginning is just the stock", book -> {
            sold(25, 1, 50).on(book);
            book.price(0, 25, 18, 0);
        }, 10, 25, 450_000);
        had("the cheaper beginning is one above the stock", book -> {
            sold(24, 1, 50).on(book);
            book.price(0, 25, 18, 0);
        }, 10, 10, 500_000);
    }

    private static void packs() {
        Cases.Use twelves = book -> {
            sold(100, 1, 1).on(book);
            book.pack(0, 12);
        };
        had("a quantity of just a pack", twelves, 12, 12, 12_000);
        had("a quantity of one below a pack", twelves, 11, 12, 12_000);
        had("a quantity of one above a pack", twelves, 13, 24, 24_000);
        had("the last sum within the stock", twelves, 96, 96, 96_000);
        had("one above the last sum within the stock", twelves, 97, -1, -1);
        had("a sum that is just the stock", book -> {
            twelves.on(book);
            book.stock(0, 24);
        }, 13, 24, 24_000);
        had("a sum that is one above the stock", book -> {
            twelves.on(book);
            book.stock(0, 23);
        }, 13, -1, -1);
        had("the least sum from the cheaper beginning on", book -> {
            sold(100, 1, 50).on(book);
            book.price(0, 25, 18, 0);
            book.pack(0, 7);
            book.pack(0, 12);
        }, 9, 26, 468_000);
        had("a cheap price under which there is no sum", book -> {
            sold(100, 1, 50).on(book);
            book.price(0, 11, 1, 0);
            book.price(0, 20, 100, 0);
            book.pack(0, 10);
        }, 5, 10, 500_000);
        had("a cheap price whose last total is a sum", book -> {
            sold(100, 1, 50).on(book);
            book.price(0, 11, 1, 0);
            book.price(0, 21, 100, 0);
            book.pack(0, 10);
        }, 5, 20, 20_000);
    }

    private static void sameCost() {
        Cases.Use steps = book -> {
            sold(1000, 1, 50).on(book);
            book.price(0, 25, 18, 0);
            book.price(0, 50, 9, 0);
        };
        had("of the same cost the least T, of three", steps, 9, 9, 450_000);
        had("of the same cost the least T, of two", steps, 10, 25, 450_000);
        had("the last one of them alone", steps, 26, 50, 450_000);
        had("a cost that is less by the least there is", book -> {
            steps.on(book);
            book.rate(1, 999);
            book.price(0, 50, 9, 1);
        }, 9, 50, 449_550);
    }

    private static void currencies() {
        Cases.Use two = book -> {
            sold(500, 1, 3).on(book);
            book.price(0, 100, 9, 1);
            book.rate(1, 100);
        };
        had("of the same cost in two currencies the least T", two, 30, 30, 90_000);
        had("less in the other currency", two, 31, 100, 90_000);
        had("the rate of the price's currency alone counts", book -> {
            two.on(book);
            book.rate(0, 2000);
        }, 15, 15, 90_000);
    }

    private static void ends() {
        had("the least cost", book -> {
            sold(1, 1, 1).on(book);
            book.rate(0, 1);
        }, 1, 1, 1);
        Cases.Use dear = book -> {
            sold(20_000, 1, 1_000_000).on(book);
            book.rate(0, 1_000_000);
        };
        had("the greatest price, rate and quantity", dear, 10_000, 10_000, 10_000_000_000_000_000L);
        Cases.Use dearest = book -> {
            dear.on(book);
            book.pack(0, 999);
        };
        had("the greatest cost", dearest, 10_000, 10_989, 10_989_000_000_000_000L);
        had("a total above the greatest quantity that is just the stock", book -> {
            dearest.on(book);
            book.stock(0, 10_989);
        }, 10_000, 10_989, 10_989_000_000_000_000L);
        had("a total above the greatest quantity that is one above the stock", book -> {
            dearest.on(book);
            book.stock(0, 10_988);
        }, 10_000, -1, -1);
        had("the greatest beginning is the cheaper one", book -> {
            sold(20_000, 1, 1_000_000).on(book);
            book.price(0, 10_000, 1, 0);
        }, 1, 10_000, 10_000_000);
    }
}
