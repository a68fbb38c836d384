import java.util.Arrays;
import java.util.function.Consumer;

/** The empty hall and the full one: what cannot be asked of the one, and what the other one does not take. */
final class HallBounds extends Bounds {
    private static final Object[][] ADDING = {{"type", 'd'}, {"morphism", 2}, {"slopeNumber", 9}, {"fixed", 0},
        {"slope"}, {"automaton", 2, 1}, {"automatonOf", 0}, {"equal", 0, 0}, {"less", 0, 1}, {"sum", 0, 1, 2},
        {"number", 0, 0}, {"letterIs", 0, 0, 'a'}, {"same", 0, 0, 0}, {"regular", 1}, {"added", 0, 0}};
    private static final Object[][] NOT_THERE = {{"setImage", 0, 'a'}, {"uniform", 0}, {"isPrimitive", 0},
        {"grown", 0, 'a', 0}, {"fixed", 0}, {"automatonOf", 0}, {"arrow", 0, 0, 0, 0}, {"give", 0, 0, 'a'},
        {"letterAt", 0, 0}, {"least", 0}, {"kernel", 0, 0}, {"letterIs", 0, 0, 'a'}, {"same", 0, 0, 0},
        {"pieces", 0, 1}, {"piecesByCounts", 0, 1}, {"palindromes", 0, 1}, {"exponent", 0, 1},
        {"entry", 0, 'l', 0, 0, 0}, {"added", 0, 0}, {"term", 0, 0}, {"path", 0, 0, 'x'}, {"meanLetter", 0, 1}};
    private static final Object[][] TOO_FEW = {{"join", true}, {"join", false}, {"not"}, {"exists", 0}, {"forAll", 0},
        {"drop"}, {"free"}, {"states"}, {"isTrue"}, {"holds", 0, 0, 0, 0, 0}, {"count", 0, 0}, {"avoiders", 2, 0}};

    private HallBounds() {
    }

    static void check() {
        at("Exceptions", "A method that throws an exception changes nothing.");
        refuse(NEW, INDEX, NOT_THERE);
        refuse(NEW, NO_ELEMENT, TOO_FEW);
        refuse(NEW, UNSUPPORTED, new Object[][] {{"slope"}});
        refuse(Halls::fillUp, STATE, ADDING);
        dueAnswers();
    }

    /** Each call is refused, one by one and all in a row, and nothing has changed. */
    private static void refuse(Consumer<Morphichall> made, Class<?> exception, Object[][] calls) {
        Consumer<Morphichall> all = made;
        String untouched = View.of(maker(made));
        for (Object[] call : calls) {
            String name = (String) call[0];
            Object[] arguments = Arrays.copyOfRange(call, 1, call.length);
            due(exception, made, name, arguments);
            is("all that is seen after it", View.of(maker(then(made, name, arguments))), untouched);
            all = then(all, name, arguments);
        }
        is("all that is seen after all of them", View.of(maker(all)), untouched);
    }

    /** A full hall answers all the same. */
    private static void dueAnswers() {
        promise(1, "Creates a hall without morphisms, sequences and formulas, with an empty word.");
        is("a new hall beside a full one", View.of(Morphichall::new), View.of(maker(NEW)));
        promise(16, "Returns how many.");
        Consumer<Morphichall> full = Halls::fillUp;
        due(40, full, "wipe");
        due(2, full, "uniform", 0);
        due(8, full, "sequences");
        due(5, full, "drop");
        due(5, full, "join", true);
        due(0, full, "term", 3, 1000000000);
        due(true, full, "isSound");
    }
}
