import java.util.HashSet;
import java.util.Set;

/** The cases of a promise: each is run by itself and told by its name, and none stops the others. */
final class Cases {
    private static final boolean TELL_ALL = Boolean.getBoolean("cases");

    private final String promise;
    private final Set<String> names = new HashSet<>();
    private int failed = 0;

    interface Use {
        void on(PartBook book);
    }

    interface UseOfInt {
        void on(PartBook book, int number);
    }

    interface UseOfLong {
        void on(PartBook book, long number);
    }

    Cases(String promise) {
        this.promise = promise;
    }

    void holds(String name, Check.Call body) {
        int before = Check.wrong();
        Check.at(promise + ": " + name);
        Check.is("a name of its own", names.add(name));
        try {
            body.run();
        } catch (RuntimeException e) {
            Check.fault("threw " + e);
        }
        boolean good = Check.wrong() == before;
        failed += good ? 0 : 1;
        if (TELL_ALL || !good) {
            System.out.println((good ? "ok     " : "FAILED ") + promise + ": " + name);
        }
    }

    /** A call on the furnished book throws what is due, and leaves all as it was. */
    void refuses(String name, String due, Use call) {
        holds(name + " is refused", () -> {
            PartBook book = Books.furnished();
            Check.refuses("it", due, () -> call.on(book));
            Check.same("what is left", Books.answers(book), Books.answers(Books.furnished()));
        });
    }

    /** The first ones on either side of what is taken, and the ends of an int. */
    void outside(String what, int least, int most, String due, UseOfInt call) {
        int[] numbers = {least - 1, most + 1, Integer.MIN_VALUE, Integer.MAX_VALUE};
        for (int number : numbers) {
            refuses(what + " " + number, due, book -> call.on(book, number));
        }
    }

    /** The same for a long, and one that would be taken if it were cut to an int. */
    void outsideLong(String what, long least, long most, UseOfLong call) {
        long[] numbers = {least - 1, most + 1, Long.MIN_VALUE, Long.MAX_VALUE, least + (1L << 32)};
        for (long number : numbers) {
            refuses(what + " " + number, Check.ARGUMENT, book -> call.on(book, number));
        }
    }

    void parts(UseOfInt call) {
        outside("part", 0, Books.PARTS - 1, Check.INDEX, call);
        holds("part 0 of an empty book is refused", () -> {
            PartBook book = new PartBook();
            book.rule();
            Check.refuses("it", Check.INDEX, () -> call.on(book, 0));
        });
        holds("part 39 of a full book is taken", () -> call.on(Books.full(), 39));
        holds("part 40 of a full book is refused", () -> {
            PartBook book = Books.full();
            Check.refuses("it", Check.INDEX, () -> call.on(book, 40));
        });
    }

    void rules(UseOfInt call) {
        outside("rule", 0, Books.RULES - 1, Check.INDEX, call);
        holds("rule 0 of a book without rules is refused", () -> {
            PartBook book = new PartBook();
            book.part(0);
            Check.refuses("it", Check.INDEX, () -> call.on(book, 0));
        });
        holds("rule 9 of ten is taken", () -> call.on(Books.full(), 9));
        holds("rule 10 of ten is refused", () -> {
            PartBook book = Books.full();
            Check.refuses("it", Check.INDEX, () -> call.on(book, 10));
        });
    }

    void names(UseOfInt call) {
        outside("name", 0, 11, Check.INDEX, call);
        holds("name 0 is taken", () -> call.on(Books.furnished(), 0));
        holds("name 11 is taken", () -> call.on(Books.furnished(), 11));
    }

    void tell() {
        System.out.println(promise + ": " + names.size() + " cases, " + failed + " failed");
    }

    void end() {
        tell();
        Check.end();
    }
}
