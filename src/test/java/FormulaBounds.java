import java.util.Arrays;
import java.util.function.Consumer;
import java.util.function.Predicate;

/** Promises 23 to 38, and what the terms say of the prover, at their bounds. */
final class FormulaBounds extends Bounds {
    private static final int HIGHEST = 1000000;
    private static final int[] NUMBERS = {0, 1, 2, 3, 19, 20, 21, 524287, 524288, 999999, HIGHEST};
    private static final Consumer<Morphichall> NONE = Halls.withFormulas(0);
    private static final Consumer<Morphichall> ONE = Halls.withFormulas(1);
    private static final Consumer<Morphichall> FIVE = Halls.withFormulas(5);
    private static final Consumer<Morphichall> SIX = Halls.withFormulas(6);

    private FormulaBounds() {
    }

    static void check() {
        pushes();
        pushesOfSequences();
        fullStack();
        equal();
        less();
        sum();
        number();
        letterIs();
        same();
        join();
        not();
        quantifiers();
        exists();
        forAll();
        dropAndFree();
        states();
        isTrue();
        holds();
        count();
        limitOfPairs();
        limitOfSets();
    }

    private static void pushes() {
        new Refusals(23, "equal").hall("no formula", NONE).hall("5 formulas", FIVE).hall("6 formulas", SIX, STATE)
                .range("x", 0, 4, ARGUMENT).range("y", 0, 4, ARGUMENT).check();
        new Refusals(24, "less").hall("no formula", NONE).hall("5 formulas", FIVE).hall("6 formulas", SIX, STATE)
                .range("x", 0, 4, ARGUMENT).range("y", 0, 4, ARGUMENT).check();
        new Refusals(25, "sum").hall("5 formulas", FIVE).hall("6 formulas", SIX, STATE)
                .range("x", 0, 4, ARGUMENT).range("y", 0, 4, ARGUMENT).range("z", 0, 4, ARGUMENT).check();
        new Refusals(26, "number").hall("no formula", NONE).hall("5 formulas", FIVE).hall("6 formulas", SIX, STATE)
                .range("x", 0, 4, ARGUMENT).range("number", 0, 20, ARGUMENT).check();
    }

    private static void pushesOfSequences() {
        Consumer<Morphichall> more = hall -> {
            hall.automaton(4, 1);
            Halls.automaton(hall, Halls.ring(8));
        };
        Refusals letterIs = new Refusals(27, "letterIs");
        Refusals same = new Refusals(28, "same");
        for (Refusals refusals : new Refusals[] {letterIs, same}) {
            refusals.hall("5 formulas", FIVE.andThen(more)).hall("6 formulas", SIX.andThen(more), STATE)
                    .argument("sequence", 1, 4).wrong(INDEX, -1, 5, Integer.MIN_VALUE, Integer.MAX_VALUE)
                    .wrong(UNSUPPORTED, 0, 2, 3).range("x", 0, 4, ARGUMENT).never(INDEX, UNSUPPORTED);
        }
        letterIs.signs("letter", "abcd", ARGUMENT).check();
        same.range("y", 0, 4, ARGUMENT).check();
        promise(27, "- `sequence`: the sequence");
        due(INDEX, NEW, "letterIs", 0, 0, 'a');
        due(1, then(NEW, "automaton", 2, 1), "letterIs", 0, 0, 'a');
        promise(28, "- `sequence`: the sequence");
        due(INDEX, NEW, "same", 0, 0, 0);
        due(1, then(NEW, "automaton", 2, 1), "same", 0, 0, 0);
    }

    private static void fullStack() {
        Consumer<Morphichall> automaton = then(NEW, "automaton", 2, 1);
        Object[][] pushes = {{23, "equal", 0, 4}, {24, "less", 0, 4}, {25, "sum", 0, 4, 4}, {26, "number", 4, 20},
            {27, "letterIs", 0, 4, 'd'}, {28, "same", 0, 0, 4}};
        for (Object[] push : pushes) {
            String name = (String) push[1];
            Object[] arguments = Arrays.copyOfRange(push, 2, push.length);
            Morphichall hall = Check.prepared(automaton);
            for (int count = 1; count <= 6; count++) {
                promise((int) push[0], "Returns how many formulas there are.");
                next(count, hall, name, arguments);
            }
            terms("At most 6 formulas are on a stack.");
            next(STATE, hall, name, arguments);
            next(5, hall, "drop");
            next(6, hall, name, arguments);
            next(STATE, hall, name, arguments);
            for (int count = 5; count >= 0; count--) {
                promise(33, "Returns how many formulas there are.");
                next(count, hall, "drop");
            }
            next(NO_ELEMENT, hall, "drop");
        }
    }

    /** The formula on top holds just for the numbers for which it is due to hold, at two variables of five. */
    private static void dueHolds(Consumer<Morphichall> made, int x, int y, Predicate<int[]> due) {
        dueHolds(Check.prepared(made), x, y, due);
        dueHolds(Check.prepared(worn(made)), x, y, due);
    }

    private static void dueHolds(Morphichall hall, int x, int y, Predicate<int[]> due) {
        for (int one : NUMBERS) {
            for (int other : x == y ? new int[] {one} : NUMBERS) {
                int[] n = {7, 7, 7, 7, 7};
                n[x] = one;
                n[y] = other;
                next(due.test(n), hall, "holds", n[0], n[1], n[2], n[3], n[4]);
            }
        }
    }

    private static void equal() {
        for (int x = 0; x < 5; x++) {
            for (int y = 0; y < 5; y++) {
                int one = x;
                int other = y;
                promise(23, "Puts a formula on the stack: both are equal.");
                dueHolds(then(NEW, "equal", x, y), x, y, n -> n[one] == n[other]);
                promise(23, x == y ? "- `y`: another one, or the same" : "- `x`: a variable");
                due(1 << x | 1 << y, then(NEW, "equal", x, y), "free");
                due(x == y ? 1 : 2, then(NEW, "equal", x, y), "states");
                terms("A formula tells something of the numbers of variables, numbered 0 to 4.");
                due(ARGUMENT, NEW, "equal", x, 5);
                due(ARGUMENT, NEW, "equal", -1, y);
            }
        }
    }

    private static void less() {
        for (int x = 0; x < 5; x++) {
            for (int y = 0; y < 5; y++) {
                int one = x;
                int other = y;
                promise(24, "Puts a formula on the stack: the first one is less.");
                dueHolds(then(NEW, "less", x, y), x, y, n -> n[one] < n[other]);
                promise(24, x == y ? "- `y`: another one, or the same" : "- `x`: a variable");
                due(1 << x | 1 << y, then(NEW, "less", x, y), "free");
                due(x == y ? 1 : 3, then(NEW, "less", x, y), "states");
            }
        }
    }

    private static void sum() {
        int[][] rows = {{0, 0, 0}, {0, 0, 1}, {1, 0, 1}, {0, 1, 1}, {1, 1, 1}, {1, 1, 2}, {1, 1, 3}, {0, 1, 0},
            {1, 0, 0}, {499999, 500001, HIGHEST}, {499999, 500001, 999999}, {499999, 500000, HIGHEST},
            {0, HIGHEST, HIGHEST}, {HIGHEST, 0, HIGHEST}, {HIGHEST, 1, HIGHEST}, {HIGHEST, HIGHEST, HIGHEST},
            {262144, 262144, 524288}, {262143, 1, 262144}, {HIGHEST, HIGHEST, 0}, {524288, 524288, 0}};
        for (int x = 0; x < 5; x++) {
            for (int y = 0; y < 5; y++) {
                for (int z = 0; z < 5; z++) {
                    Morphichall hall = Check.prepared(worn(then(NEW, "sum", x, y, z)));
                    promise(25, "- `z`: a variable, any of them the same");
                    next(1 << x | 1 << y | 1 << z, hall, "free");
                    promise(25, "Puts a formula on the stack: the first and the second one together are the third");
                    for (int[] row : rows) {
                        int[] n = {9, 9, 9, 9, 9};
                        n[z] = row[2];
                        n[y] = row[1];
                        n[x] = row[0];
                        next(n[x] + n[y] == n[z], hall, "holds", n[0], n[1], n[2], n[3], n[4]);
                    }
                }
            }
        }
    }

    private static void number() {
        for (int told = 0; told <= 20; told++) {
            Morphichall hall = Check.prepared(then(NEW, "number", told % 5, told));
            promise(26, "- `number`: the number, 0 to 20");
            next(1 << told % 5, hall, "free");
            next(told == 0 ? 2 : 34 - Integer.numberOfLeadingZeros(told), hall, "states");
            promise(26, "Puts a formula on the stack: the variable is a number.");
            for (int asked : new int[] {told - 1, told, told + 1, 2 * told, 2 * told + 1, told + 32, told + 524288}) {
                if (asked >= 0) {
                    int[] n = {20, 20, 20, 20, 20};
                    n[told % 5] = asked;
                    next(asked == told, hall, "holds", n[0], n[1], n[2], n[3], n[4]);
                }
            }
        }
        terms("that one is a number from 0 to 20");
        due(ARGUMENT, NEW, "number", 0, -1);
        due(1, NEW, "number", 0, 0);
        due(1, NEW, "number", 0, 20);
        due(ARGUMENT, NEW, "number", 0, 21);
    }

    private static int ring(Object hall, int states) {
        String[] ring = Halls.ring(states);
        int number = Integer.parseInt(Call.answer(hall, "automaton", 2, states));
        for (int state = 0; state < states; state++) {
            Call.answer(hall, "give", number, state, ring[state].charAt(0));
            Call.answer(hall, "arrow", number, state, 0, ring[state].charAt(1) - '0');
            Call.answer(hall, "arrow", number, state, 1, ring[state].charAt(2) - '0');
        }
        return number;
    }

    private static void letterIs() {
        String[][] automata = {{"a10", "b11"}, {"a01", "b10"}, {"d12", "b11", "c22"}, {"c00"}, Halls.ring(8)};
        for (String[] states : automata) {
            for (char letter = 'a'; letter <= 'd'; letter++) {
                char told = letter;
                Morphichall hall = Check.prepared(h -> Halls.automaton(h, states));
                promise(27, "Puts a formula on the stack: a sequence has a letter at the variable.");
                next(1, hall, "letterIs", 0, 3, told);
                next(8, hall, "free");
                for (int place = 0; place < 70; place++) {
                    next(hall.letterAt(0, place) == told, hall, "holds", 0, 0, 0, place, 0);
                }
                for (int place : NUMBERS) {
                    next(hall.letterAt(0, place) == told, hall, "holds", 0, 0, 0, place, 0);
                }
                hall.give(0, 0, told == 'a' ? 'b' : 'a');
                hall.arrow(0, 0, 1, 0);
                terms("sequences for this are automata of base 2, as they are then");
                next(2, hall, "letterIs", 0, 3, told);
                hall.drop();
                String before = states[0].charAt(0) == told ? "true" : "false";
                next(before, hall, "holds", 0, 0, 0, 0, 0);
            }
        }
        terms("sequences for this are automata of base 2");
        for (int base = 2; base <= 4; base++) {
            due(base == 2 ? 1 : UNSUPPORTED, then(NEW, "automaton", base, 1), "letterIs", 0, 0, 'a');
            due(base == 2 ? 1 : UNSUPPORTED, then(NEW, "automaton", base, 1), "same", 0, 0, 0);
        }
        terms("with the letters that letterAt() tells, whatever noughts are ahead.");
        due(true, hall -> hall.letterIs(Halls.automaton(hall, "a10", "b11"), 0, 'a'), "holds", 0, 0, 0, 0, 0);
        due(true, hall -> hall.letterIs(Halls.automaton(hall, "a10", "b11"), 0, 'a'), "holds", 1, 0, 0, 0, 0);
        due(false, hall -> hall.letterIs(Halls.automaton(hall, "a10", "b11"), 0, 'a'), "holds", 2, 0, 0, 0, 0);
    }

    private static void same() {
        String[][] automata = {{"a10", "b12", "c20"}, {"a01", "b10"}, {"d12", "b11", "c22"}, {"c00"}, Halls.ring(8)};
        for (String[] states : automata) {
            for (int y = 0; y < 2; y++) {
                Morphichall hall = Check.prepared(h -> Halls.automaton(h, states));
                promise(28, "Puts a formula on the stack: a sequence has the same letter at both.");
                next(1, hall, "same", 0, 0, y);
                promise(28, y == 0 ? "- `y`: another one, or the same" : "- `x`: a variable");
                next(1 << y | 1, hall, "free");
                for (int one = 0; one < 9; one++) {
                    for (int other = 0; other < 9; other++) {
                        next(y == 0 || hall.letterAt(0, one) == hall.letterAt(0, other), hall, "holds", one, other,
                                0, 0, 0);
                    }
                }
                for (int one : NUMBERS) {
                    next(y == 0 || hall.letterAt(0, one) == hall.letterAt(0, HIGHEST), hall, "holds", one, HIGHEST,
                            0, 0, 0);
                }
            }
        }
    }

    private static void join() {
        new Refusals(29, "join").hall("2 formulas", Halls.withFormulas(2)).hall("6 formulas", SIX)
                .hall("200 pairs", SOME.andThen(FormulaBounds::twoHundredPairs))
                .hall("no formula", NONE, NO_ELEMENT).hall("1 formula", ONE, NO_ELEMENT)
                .hall("201 pairs", SOME.andThen(FormulaBounds::morePairs), UNSUPPORTED)
                .argument("isAnd", true, false).never(NO_ELEMENT, UNSUPPORTED).check();
        promise(29, "Returns how many formulas there are.");
        for (int count = 2; count <= 6; count++) {
            due(count - 1, Halls.withFormulas(count), "join", true);
            due(count - 1, Halls.withFormulas(count), "join", false);
            due(count, then(Halls.withFormulas(count), "join", true), "less", 0, 1);
        }
        Consumer<Morphichall> five = then(then(NEW, "sum", 0, 1, 2), "less", 3, 4);
        for (boolean isAnd : new boolean[] {true, false}) {
            promise(29, "Joins the two formulas on top.");
            due(31, then(five, "join", isAnd), "free");
            due(isAnd ? 5 : 7, then(five, "join", isAnd), "states");
            for (int values = 0; values < 4; values++) {
                due(isAnd ? values == 3 : values > 0, then(five, "join", isAnd), "holds", HIGHEST - 1, values % 2,
                        HIGHEST, HIGHEST - values / 2, HIGHEST);
            }
        }
        for (int values = 0; values < 4; values++) {
            boolean one = values % 2 == 1;
            boolean other = values / 2 == 1;
            Consumer<Morphichall> two = hall -> {
                hall.equal(4, 4);
                hall.number(0, one ? 5 : 6);
                hall.number(1, other ? 5 : 6);
            };
            promise(29, "Joins the two formulas on top.");
            due(3, then(then(two, "join", true), "drop").andThen(two), "join", true);
            promise(29, "- `isAnd`: true for and, false for or");
            due(one && other, then(two, "join", true), "holds", 5, 5, 0, 0, 0);
            due(one || other, then(two, "join", false), "holds", 5, 5, 0, 0, 0);
            due(3, then(two, "join", true), "free");
            due(16, then(then(two, "join", true), "drop"), "free");
        }
    }

    private static void not() {
        new Refusals(30, "not").hall("1 formula", ONE).hall("6 formulas", SIX).hall("no formula", NONE, NO_ELEMENT)
                .check();
        promise(30, "Turns the formula on top over.");
        dueHolds(then(then(NEW, "less", 1, 3), "not"), 1, 3, n -> n[1] >= n[3]);
        dueHolds(then(then(then(NEW, "less", 1, 3), "not"), "not"), 1, 3, n -> n[1] < n[3]);
        dueHolds(then(then(then(then(NEW, "less", 1, 3), "equal", 0, 0), "not"), "drop"), 1, 3, n -> n[1] < n[3]);
        promise(30, "Returns how many states its automaton has.");
        due(1, then(NEW, "equal", 0, 0), "not");
        due(3, then(NEW, "less", 0, 1), "not");
        due(200, Halls::fillRing, "not");
    }

    private static void quantifiers() {
        for (int promise = 31; promise <= 32; promise++) {
            new Refusals(promise, promise == 31 ? "exists" : "forAll").hall("1 formula", ONE).hall("6 formulas", SIX)
                    .hall("200 sets", SOME.andThen(FormulaBounds::twoHundredSets))
                    .hall("no formula", NONE, NO_ELEMENT)
                    .hall("201 sets", SOME.andThen(FormulaBounds::moreSets), UNSUPPORTED)
                    .argument("x", 1).wrong(ARGUMENT, -1, 5, Integer.MIN_VALUE, Integer.MAX_VALUE)
                    .never(NO_ELEMENT, UNSUPPORTED).check();
            promise(promise, "- `x`: the variable");
            String name = promise == 31 ? "exists" : "forAll";
            for (int x = -1; x <= 5; x++) {
                boolean is = x >= 0 && x <= 4;
                due(is ? 1 : ARGUMENT, then(NEW, "equal", 2, 2), name, x);
                due(is ? NO_ELEMENT : ARGUMENT, NEW, name, x);
            }
            promise(promise, "Returns how many states its automaton has.");
            due(1, then(NEW, "equal", 0, 0), name, 0);
            due(200, Halls::fillRing, name, 3);
        }
    }

    private static void exists() {
        promise(31, "Makes of the formula on top that there is a number for a variable.");
        Consumer<Morphichall> below20 = hall -> {
            hall.less(0, 1);
            hall.number(1, 20);
            hall.join(true);
        };
        dueHolds(then(below20, "exists", 1), 0, 2, n -> n[0] < 20);
        dueHolds(then(then(NEW, "less", 0, 1), "exists", 0), 1, 2, n -> n[1] > 0);
        dueHolds(then(then(NEW, "less", 0, 1), "exists", 1), 0, 2, n -> true);
        dueHolds(then(then(NEW, "sum", 0, 0, 1), "exists", 1), 0, 2, n -> true);
        dueHolds(then(then(NEW, "sum", 0, 0, 1), "exists", 0), 1, 2, n -> n[1] % 2 == 0);
        dueHolds(then(then(NEW, "sum", 0, 1, 2), "exists", 0), 1, 2, n -> n[1] <= n[2]);
        Consumer<Morphichall> fourTimes = hall -> {
            hall.sum(0, 0, 2);
            hall.sum(2, 2, 1);
            hall.join(true);
            hall.exists(2);
        };
        dueHolds(fourTimes, 0, 1, n -> 4 * n[0] == n[1]);
        dueHolds(then(fourTimes, "exists", 1), 0, 2, n -> true);
        dueHolds(then(fourTimes, "exists", 0), 1, 2, n -> n[1] % 4 == 0);
        due(1, fourTimes, "exists", 1);
        due(3, fourTimes, "exists", 0);
        due(40, Halls::fillRing, "exists", 0);
        due(40, Halls::fillRing, "exists", 1);
        due(25, Halls::fillRing, "exists", 2);
        due(1, then(then(Halls::fillRing, "exists", 0), "exists", 1), "exists", 2);
        Consumer<Morphichall> below19 = hall -> {
            below20.accept(hall);
            hall.exists(1);
            hall.less(2, 0);
            hall.join(true);
            hall.exists(0);
        };
        due(9, below19, "states");
        due(true, below19, "holds", 0, 0, 18, 0, 0);
        due(false, below19, "holds", 0, 0, 19, 0, 0);
        joined();
    }

    private static void joined() {
        terms("a variable of which this was told is not free any more");
        due(4, then(then(NEW, "sum", 0, 1, 2), "exists", 0).andThen(hall -> hall.forAll(1)), "free");
        due(0, then(then(NEW, "equal", 4, 4), "exists", 4), "free");
        terms("variables that were never free have no meaning there.");
        for (String name : new String[] {"exists", "forAll"}) {
            due(3, then(NEW, "less", 1, 3), name, 0);
            due(10, then(then(NEW, "less", 1, 3), name, 4), "free");
            dueHolds(then(then(NEW, "less", 1, 3), name, 2), 1, 3, n -> n[1] < n[3]);
            dueHolds(then(then(then(NEW, "less", 1, 3), name, 3), name, 3), 1, 3, n -> name.equals("exists"));
        }
        terms("A variable is free in a formula as it was named in it, also if it makes no difference.");
        due(2, then(NEW, "less", 1, 1), "free");
        due(3, then(then(then(NEW, "less", 1, 1), "equal", 0, 0), "join", true), "free");
        due(3, then(then(then(NEW, "less", 1, 1), "equal", 0, 0), "join", false), "free");
        due(UNSUPPORTED, then(NEW, "equal", 0, 0), "isTrue");
    }

    private static void forAll() {
        promise(32, "Makes of the formula on top that it is so for all numbers of a variable.");
        dueHolds(then(then(NEW, "less", 0, 1), "forAll", 1), 0, 2, n -> false);
        dueHolds(then(then(then(NEW, "less", 1, 0), "not"), "forAll", 1), 0, 2, n -> n[0] == 0);
        dueHolds(then(then(NEW, "equal", 0, 0), "forAll", 1), 0, 2, n -> true);
        dueHolds(then(then(then(NEW, "sum", 0, 0, 1), "not"), "forAll", 0), 1, 2, n -> n[1] % 2 == 1);
        dueHolds(then(then(then(NEW, "sum", 0, 0, 1), "not"), "forAll", 1), 0, 2, n -> false);
        dueHolds(then(then(then(NEW, "number", 1, 0), "not"), "forAll", 1), 0, 2, n -> false);
    }

    private static void dropAndFree() {
        new Refusals(33, "drop").hall("1 formula", ONE).hall("6 formulas", SIX).hall("no formula", NONE, NO_ELEMENT)
                .check();
        new Refusals(34, "free").hall("1 formula", ONE).hall("6 formulas", SIX).hall("no formula", NONE, NO_ELEMENT)
                .check();
        promise(33, "Takes the formula on top off.");
        due(1, then(then(then(NEW, "equal", 0, 0), "equal", 1, 1), "drop"), "free");
        due(NO_ELEMENT, then(then(NEW, "equal", 0, 0), "drop"), "free");
        promise(34, "Returns which variables of the formula on top are free.");
        for (int mask = 1; mask < 32; mask++) {
            int free = mask;
            promise(34, "Returns the sum of 2 to the power of each.");
            due(mask, hall -> joinAll(hall, free), "free");
        }
        due(0, then(then(NEW, "equal", 0, 0), "exists", 0), "free");
    }

    private static void joinAll(Morphichall hall, int mask) {
        for (int x = 0, count = 0; x < 5; x++) {
            if ((mask >> x & 1) != 0) {
                hall.equal(x, x);
                count++;
                if (count > 1) {
                    hall.join(x % 2 == 0);
                }
            }
        }
    }

    private static void states() {
        new Refusals(35, "states").hall("1 formula", ONE).hall("6 formulas", SIX)
                .hall("no formula", NONE, NO_ELEMENT).check();
        promise(35, "Returns how many states the automaton of the formula on top has.");
        due(1, then(NEW, "equal", 0, 0), "states");
        due(2, then(NEW, "equal", 0, 1), "states");
        due(3, then(NEW, "less", 0, 1), "states");
        due(3, then(NEW, "sum", 0, 1, 2), "states");
        promise(35, "Returns how many.");
        due(200, Halls::fillRing, "states");
        terms("so that states in which nothing can hold any more are counted, too.");
        due(2, then(NEW, "number", 0, 0), "states");
        due(1, then(then(then(NEW, "number", 0, 0), "number", 0, 1), "join", true), "states");
        terms("with as many noughts ahead as need be");
        for (int states = 1; states <= 8; states++) {
            int ring = states;
            due(states, hall -> hall.letterIs(ring(hall, ring), 0, 'b'), "states");
        }
        due(3, hall -> hall.letterIs(Halls.automaton(hall, "a10", "b11"), 0, 'b'), "states");
    }

    private static void isTrue() {
        new Refusals(36, "isTrue").hall("none free", then(then(SOME, "equal", 0, 0), "exists", 0))
                .hall("no formula", NONE, NO_ELEMENT).hall("1 formula", ONE, UNSUPPORTED)
                .hall("6 formulas", SIX, UNSUPPORTED).never(NO_ELEMENT, UNSUPPORTED).check();
        promise(36, "Returns whether the formula on top holds.");
        due(true, then(then(NEW, "equal", 0, 0), "forAll", 0), "isTrue");
        promise(36, "Returns true if so.");
        due(false, then(then(NEW, "less", 0, 0), "exists", 0), "isTrue");
        due(true, then(then(then(NEW, "less", 0, 0), "exists", 0), "not"), "isTrue");
        for (int x = 0; x < 5; x++) {
            promise(36, "Throws `UnsupportedOperationException` if it has free variables");
            due(UNSUPPORTED, then(NEW, "equal", x, x), "isTrue");
            due(true, then(then(NEW, "equal", x, x), "exists", x), "isTrue");
        }
    }

    private static void holds() {
        Refusals refusals = new Refusals(37, "holds").hall("6 formulas", SIX).hall("no formula", NONE, NO_ELEMENT);
        for (String name : new String[] {"a", "b", "c", "d", "e"}) {
            refusals.range(name, 0, HIGHEST, ARGUMENT);
        }
        refusals.check();
        promise(37, "Returns whether the formula on top holds for numbers of its variables.");
        for (int x = 0; x < 5; x++) {
            int variable = x;
            int other = (x + 1) % 5;
            promise(37, "- `" + "abcde".charAt(x) + "`: ");
            dueHolds(then(NEW, "number", x, 20), x, other, n -> n[variable] == 20);
            dueHolds(then(NEW, "less", other, x), x, other, n -> n[other] < n[variable]);
        }
        promise(37, "Returns true if so.");
        due(true, then(NEW, "sum", 0, 4, 2), "holds", 1, 0, HIGHEST, 0, HIGHEST - 1);
        due(false, then(NEW, "sum", 0, 4, 2), "holds", 1, 0, HIGHEST, 0, HIGHEST);
        due(true, then(then(NEW, "equal", 0, 0), "exists", 0), "holds", 0, 0, 0, 0, 0);
        due(ARGUMENT, then(then(NEW, "equal", 0, 0), "exists", 0), "holds", 0, 0, 0, 0, HIGHEST + 1);
    }

    private static void count() {
        new Refusals(38, "count").hall("1 formula", ONE).hall("6 formulas", SIX).hall("no formula", NONE, NO_ELEMENT)
                .range("x", 0, 4, ARGUMENT).range("below", 0, 1000, ARGUMENT).check();
        for (int below : new int[] {0, 1, 2, 19, 20, 21, 22, 511, 512, 513, 999, 1000}) {
            promise(38, "- `below`: below which number, 0 to 1000");
            due(below, then(NEW, "equal", 0, 0), "count", 0, below);
            due(below, then(NEW, "equal", 0, 0), "count", 1, below);
            due(0, then(NEW, "less", 0, 0), "count", 0, below);
            due(below > 20 ? 1 : 0, then(NEW, "number", 4, 20), "count", 4, below);
            promise(38, "Returns for how many numbers of a variable the formula on top holds, all other variables");
            due(Math.max(below - 1, 0), then(NEW, "less", 1, 2), "count", 2, below);
            due(0, then(NEW, "less", 1, 2), "count", 1, below);
            due(Math.min(below, 1), then(NEW, "equal", 1, 2), "count", 1, below);
            int odd = 0;
            for (int number = 0; number < below; number++) {
                odd += Integer.bitCount(number) % 2;
            }
            promise(38, "Returns how many.");
            due(odd, hall -> hall.letterIs(ring(hall, 2), 3, 'b'), "count", 3, below);
        }
    }

    private static void twoHundredPairs(Object hall) {
        int ring = ring(hall, 5);
        Call.answer(hall, "letterIs", ring, 0, 'b');
        Call.answer(hall, "same", ring, 1, 2);
        Call.answer(hall, "join", false);
        Call.answer(hall, "number", 0, 3);
    }

    private static void morePairs(Object hall) {
        int ring = ring(hall, 8);
        Call.answer(hall, "same", ring, 0, 1);
        Call.answer(hall, "sum", 0, 2, 1);
        Call.answer(hall, "join", false);
        Call.answer(hall, "sum", 2, 1, 2);
    }

    private static void twoHundredSets(Object hall) {
        int ring = ring(hall, 8);
        Call.answer(hall, "same", ring, 2, 0);
        Call.answer(hall, "number", 1, 0);
        Call.answer(hall, "join", true);
        Call.answer(hall, "sum", 0, 1, 2);
        Call.answer(hall, "join", false);
    }

    private static void moreSets(Object hall) {
        int ring = ring(hall, 7);
        Call.answer(hall, "less", 0, 1);
        Call.answer(hall, "number", 2, 10);
        Call.answer(hall, "join", false);
        Call.answer(hall, "equal", 0, 2);
        Call.answer(hall, "join", false);
        Call.answer(hall, "letterIs", ring, 1, 'b');
        Call.answer(hall, "join", false);
    }

    /** The plain hall, with a bound that is far away, tells how many there are on the way. */
    private static void dueOnTheWay(int want, Consumer<Object> made, String name, Object... arguments) {
        PlainHall plain = new PlainHall();
        plain.most = 5000;
        made.accept(plain);
        Call.answer(plain, name, arguments);
        is("states on the way of " + Call.told(name, arguments), plain.met, want);
    }

    private static void limitOfPairs() {
        for (boolean isAnd : new boolean[] {true, false}) {
            promise(29, "Throws `UnsupportedOperationException` if it is refused");
            dueOnTheWay(200, FormulaBounds::twoHundredPairs, "join", isAnd);
            dueOnTheWay(201, FormulaBounds::morePairs, "join", isAnd);
            terms("What is made on the way is refused with more than 200 states: for two formulas, the pairs of");
            due(1, FormulaBounds::twoHundredPairs, "join", isAnd);
            due(UNSUPPORTED, FormulaBounds::morePairs, "join", isAnd);
            Morphichall hall = Check.prepared(FormulaBounds::morePairs);
            String states = Call.answer(Check.prepared(then(FormulaBounds::morePairs, "drop")), "states");
            next(UNSUPPORTED, hall, "join", isAnd);
            next(2, hall, "states");
            next(1, hall, "drop");
            next(states, hall, "states");
        }
    }

    private static void limitOfSets() {
        for (String name : new String[] {"exists", "forAll"}) {
            promise(name.equals("exists") ? 31 : 32, "Throws `UnsupportedOperationException` if it is refused");
            dueOnTheWay(200, FormulaBounds::twoHundredSets, name, 1);
            dueOnTheWay(201, FormulaBounds::moreSets, name, 1);
            terms("for a variable, the sets of states that are met from that of the beginning on");
            PlainHall plain = new PlainHall();
            twoHundredSets(plain);
            due(Call.answer(plain, name, 1), FormulaBounds::twoHundredSets, name, 1);
            due(UNSUPPORTED, FormulaBounds::moreSets, name, 1);
            Morphichall hall = Check.prepared(FormulaBounds::moreSets);
            String states = Call.answer(hall, "states");
            next(UNSUPPORTED, hall, name, 1);
            next(states, hall, "states");
            next(7, hall, "free");
            next(states, hall, name, 3);
        }
    }
}
