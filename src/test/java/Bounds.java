import java.util.NoSuchElementException;
import java.util.function.Consumer;
import java.util.function.Supplier;

/** What the tests at the document's bounds have in common: each check stands under the words that it looks at. */
abstract class Bounds {
    static final Class<IllegalArgumentException> ARGUMENT = IllegalArgumentException.class;
    static final Class<IllegalStateException> STATE = IllegalStateException.class;
    static final Class<IndexOutOfBoundsException> INDEX = IndexOutOfBoundsException.class;
    static final Class<UnsupportedOperationException> UNSUPPORTED = UnsupportedOperationException.class;
    static final Class<NoSuchElementException> NO_ELEMENT = NoSuchElementException.class;
    static final Consumer<Morphichall> NEW = hall -> { };
    static final Consumer<Morphichall> SOME = Halls::fill;

    private static String where = "";

    /** From here on the checks are about these words of the promise. */
    static void promise(int number, String words) {
        at("Promise " + number, words);
    }

    static void terms(String words) {
        at("Terms", words);
    }

    static void at(String section, String words) {
        Doc.lookAt(section, words);
        where = section + " (" + words + "): ";
    }

    static void is(String what, Object got, Object want) {
        Check.due(where + what, got, want);
    }

    /** The call's answer on a hall that was made so, also if its rows have been used before. */
    static void due(Object want, Consumer<Morphichall> made, String name, Object... arguments) {
        next(want, Check.prepared(made), name, arguments);
        next(want, Check.prepared(worn(made)), name, arguments);
    }

    static Consumer<Morphichall> worn(Consumer<Morphichall> made) {
        return hall -> {
            wear(hall);
            made.accept(hall);
        };
    }

    /** Calls after which nothing has changed, but that have filled what a hall may write on as it counts. */
    private static void wear(Morphichall hall) {
        Halls.type(hall, "aab");
        hall.avoiders(2, 7);
        Halls.type(hall, "ddddddd");
        hall.wipe();
        hall.digits('2', 1000000);
        hall.sum(0, 1, 2);
        hall.sum(2, 3, 4);
        hall.join(false);
        hall.less(0, 4);
        hall.join(false);
        hall.number(1, 20);
        hall.join(false);
        hall.exists(3);
        hall.holds(1, 2, 3, 4, 5);
        hall.count(0, 1000);
        hall.drop();
    }

    /** The call's answer on this hall, as its next one. */
    static void next(Object want, Morphichall hall, String name, Object... arguments) {
        Object told = want instanceof Class<?> exception ? Call.thrown(exception) : want;
        is(Call.told(name, arguments), Call.answer(hall, name, arguments), told);
    }

    static Consumer<Morphichall> then(Consumer<Morphichall> made, String name, Object... arguments) {
        return made.andThen(hall -> Call.answer(hall, name, arguments));
    }

    static Supplier<Morphichall> maker(Consumer<Morphichall> made) {
        return () -> Check.prepared(made);
    }
}
