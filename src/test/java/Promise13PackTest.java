/** Promise 13: pack. */
final class Promise13PackTest {
    public static void main(String[] args) {
        Cases cases = new Cases("promise 13, pack");
        cases.parts((book, part) -> book.pack(part, 5));
        cases.outside("size", 1, 1000, Check.ARGUMENT, (book, size) -> book.pack(0, size));
        cases.refuses("size -1", Check.ARGUMENT, book -> book.pack(0, -1));
        cases.refuses("no such part with a wrong size", Check.INDEX, book -> book.pack(3, 0));
        sizes(cases);
        told(cases);
        six(cases);
        others(cases);
        cases.end();
    }

    /** The least totals that can be had, one behind the other. */
    private static void totals(PartBook book, int... due) {
        int quantity = 1;
        for (int total : due) {
            Check.same("best of " + quantity, book.best(0, quantity), total);
            quantity = total + 1;
        }
    }

    private static void sizes(Cases cases) {
        cases.holds("a part without any has packs of 1", () -> totals(Books.stocked(20_000), 1, 2, 3));
        cases.holds("size 1, the least one, is taken", () -> {
            PartBook book = Books.stocked(20_000);
            Check.is("it", book.pack(0, 1));
            totals(book, 1, 2, 3);
        });
        cases.holds("size 1,000, the greatest one, is taken", () -> {
            PartBook book = Books.stocked(20_000);
            Check.is("it", book.pack(0, 1000));
            totals(book, 1000, 2000, 3000);
        });
        cases.holds("with a size told, there are no packs of 1", () -> {
            PartBook book = Books.stocked(20_000);
            book.pack(0, 2);
            totals(book, 2, 4, 6, 8);
        });
        cases.holds("a size of 1 beside another one", () -> {
            PartBook book = Books.stocked(20_000);
            book.pack(0, 7);
            totals(book, 7, 14);
            Check.is("it", book.pack(0, 1));
            totals(book, 1, 2, 3, 4, 5, 6, 7, 8);
        });
        cases.holds("two sizes, the greater one first", () -> {
            PartBook book = Books.stocked(20_000);
            book.pack(0, 12);
            book.pack(0, 7);
            totals(book, 7, 12, 14, 19, 21, 24, 26, 28, 31, 33, 35, 36, 38);
        });
        cases.holds("two sizes, the lesser one first", () -> {
            PartBook book = Books.stocked(20_000);
            book.pack(0, 7);
            book.pack(0, 12);
            totals(book, 7, 12, 14, 19, 21, 24, 26, 28, 31, 33, 35, 36, 38);
        });
        cases.holds("sums of 1,000 and 999 up to the greatest quantity", () -> {
            PartBook book = Books.stocked(20_000);
            book.pack(0, 999);
            book.pack(0, 1000);
            totals(book, 999, 1000, 1998, 1999, 2000, 2997);
            Check.same("best of 9,001", book.best(0, 9_001), 9_990);
            Check.same("best of 10,000", book.best(0, 10_000), 10_000);
        });
        cases.holds("sizes of 64 and 63", () -> {
            PartBook book = Books.stocked(20_000);
            book.pack(0, 64);
            totals(book, 64, 128, 192);
            book.pack(0, 63);
            totals(book, 63, 64, 126, 127, 128, 189);
        });
    }

    private static void told(Cases cases) {
        cases.holds("a size that is told is false", () -> {
            PartBook book = Books.stocked(100);
            book.pack(0, 9);
            Check.not("it", book.pack(0, 9));
            totals(book, 9, 18);
        });
        cases.holds("a size that is told does not count among the six", () -> {
            PartBook book = Books.stocked(100);
            for (int i = 0; i < 6; i++) {
                book.pack(0, 9);
            }
            for (int size = 10; size <= 14; size++) {
                Check.is("size " + size, book.pack(0, size));
            }
            Check.not("the seventh", book.pack(0, 15));
        });
    }

    /** 20, 22, 24, 26, 28, 30. */
    private static PartBook withSix() {
        PartBook book = Books.stocked(20_000);
        for (int size = 20; size <= 30; size += 2) {
            book.pack(0, size);
        }
        return book;
    }

    private static void six(Cases cases) {
        cases.holds("the sixth size is taken", () -> {
            PartBook book = Books.stocked(20_000);
            for (int size = 20; size <= 30; size += 2) {
                Check.is("size " + size, book.pack(0, size));
            }
            totals(book, 20, 22, 24, 26, 28, 30, 40);
        });
        cases.holds("each of six told again is false", () -> {
            PartBook book = withSix();
            for (int size = 20; size <= 30; size += 2) {
                Check.not("size " + size, book.pack(0, size));
            }
            totals(book, 20, 22, 24, 26, 28, 30, 40);
        });
        int[] seventh = {1, 19, 21, 32, 1000};
        for (int size : seventh) {
            cases.holds("a seventh size, " + size + ", is false and leaves the six", () -> {
                PartBook book = withSix();
                Check.not("it", book.pack(0, size));
                Check.not("it again", book.pack(0, size));
                totals(book, 20, 22, 24, 26, 28, 30, 40, 42);
                Check.same("best of 961", book.best(0, 961), 962);
                Check.same("best of 999", book.best(0, 999), 1000);
            });
        }
    }

    private static void others(Cases cases) {
        cases.holds("each part has its own sizes", () -> {
            PartBook book = Books.stocked(100);
            book.part(0);
            book.stock(1, 100);
            book.price(1, 1, 1, 0);
            for (int size = 5; size <= 10; size++) {
                Check.is("size of part 0", book.pack(0, size));
            }
            Check.same("part 1 without any", book.best(1, 1), 1);
            for (int size = 10; size >= 5; size--) {
                Check.is("size of part 1", book.pack(1, size));
            }
            Check.same("part 1 with six", book.best(1, 1), 5);
        });
    }
}
