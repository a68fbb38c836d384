import java.util.NoSuchElementException;
import java.util.function.Consumer;

/** Promises 23 to 38: formulas. */
final class ProverTest {
    private static final Class<IllegalArgumentException> ARGUMENT = IllegalArgumentException.class;
    private static final Class<IllegalStateException> STATE = IllegalStateException.class;
    private static final Class<IndexOutOfBoundsException> INDEX = IndexOutOfBoundsException.class;
    private static final Class<UnsupportedOperationException> UNSUPPORTED = UnsupportedOperationException.class;
    private static final Class<NoSuchElementException> NO_ELEMENT = NoSuchElementException.class;
    private static final Consumer<Morphichall> NEW = hall -> { };
    private static final int[] NO_VARIABLES = {-1, 5, Integer.MIN_VALUE, Integer.MAX_VALUE, 32};

    public static void main(String[] args) {
        equal();
        less();
        sum();
        number();
        letterIs();
        same();
        join();
        joinRefused();
        not();
        exists();
        existsRefused();
        dueLimitOfSets();
        forAll();
        drop();
        free();
        states();
        isTrue();
        holds();
        count();
        theorems();
        Check.end("ProverTest");
    }

    private static void dueTop(Morphichall hall, String name, int free, int states) {
        Check.due(name + ", free()", hall.free(), free);
        Check.due(name + ", states()", hall.states(), states);
    }

    private static void equal() {
        Morphichall hall = new Morphichall();
        Check.due("23: equal", hall.equal(0, 4), 1);
        dueTop(hall, "23: equal", 17, 2);
        Check.due("23: 9, 9", hall.holds(9, 1, 2, 3, 9), true);
        Check.due("23: 9, 8", hall.holds(9, 9, 9, 9, 8), false);
        Check.due("23: 1000000, 0", hall.holds(1000000, 0, 0, 0, 0), false);
        Check.due("23: of one", hall.equal(2, 2), 2);
        dueTop(hall, "23: of one", 4, 1);
        Check.due("23: of one it holds", hall.holds(0, 0, 77, 0, 0), true);
        for (int none : NO_VARIABLES) {
            Check.dueThrow("23: equal(" + none + ", 0)", hall, ARGUMENT, h -> h.equal(none, 0));
            Check.dueThrow("23: equal(0, " + none + ")", hall, ARGUMENT, h -> h.equal(0, none));
        }
        Check.dueThrowLeavesAll("23: equal(0, 5) with 6", Halls::fillUp, ARGUMENT, h -> h.equal(0, 5));
        Check.dueThrowLeavesAll("23: equal(0, 0) with 6", Halls::fillUp, STATE, h -> h.equal(0, 0));
    }

    private static void less() {
        Morphichall hall = new Morphichall();
        Check.due("24: less", hall.less(3, 1), 1);
        dueTop(hall, "24: less", 10, 3);
        Check.due("24: 4 below 5", hall.holds(0, 5, 0, 4, 0), true);
        Check.due("24: 5 below 5", hall.holds(0, 5, 0, 5, 0), false);
        Check.due("24: 6 below 5", hall.holds(0, 5, 0, 6, 0), false);
        Check.due("24: 999999 below 1000000", hall.holds(0, 1000000, 0, 999999, 0), true);
        Check.due("24: than itself", hall.less(2, 2), 2);
        dueTop(hall, "24: than itself", 4, 1);
        Check.due("24: than itself it does not hold", hall.holds(0, 0, 1, 0, 0), false);
        for (int none : NO_VARIABLES) {
            Check.dueThrow("24: less(" + none + ", 0)", hall, ARGUMENT, h -> h.less(none, 0));
            Check.dueThrow("24: less(0, " + none + ")", hall, ARGUMENT, h -> h.less(0, none));
        }
        Check.dueThrowLeavesAll("24: less(-1, 0) with 6", Halls::fillUp, ARGUMENT, h -> h.less(-1, 0));
        Check.dueThrowLeavesAll("24: less(0, 1) with 6", Halls::fillUp, STATE, h -> h.less(0, 1));
    }

    private static void sum() {
        Morphichall hall = new Morphichall();
        Check.due("25: sum", hall.sum(4, 2, 0), 1);
        dueTop(hall, "25: sum", 21, 3);
        Check.due("25: 7 + 5 = 12", hall.holds(12, 0, 5, 0, 7), true);
        Check.due("25: 7 + 5 = 11", hall.holds(11, 0, 5, 0, 7), false);
        Check.due("25: 1 + 999999 = 1000000", hall.holds(1000000, 0, 999999, 0, 1), true);
        Check.due("25: 1000000 + 1000000 = 1000000", hall.holds(1000000, 0, 1000000, 0, 1000000), false);
        hall.sum(1, 1, 3);
        dueTop(hall, "25: twice", 10, 3);
        Check.due("25: twice 21", hall.holds(0, 21, 0, 42, 0), true);
        Check.due("25: twice 21 is not 43", hall.holds(0, 21, 0, 43, 0), false);
        hall.sum(0, 1, 0);
        dueTop(hall, "25: it stays", 3, 2);
        Check.due("25: with nothing more", hall.holds(9, 0, 0, 0, 0), true);
        Check.due("25: with more", hall.holds(9, 1, 0, 0, 0), false);
        hall.sum(2, 2, 2);
        dueTop(hall, "25: all the same", 4, 2);
        Check.due("25: of 0", hall.holds(0, 0, 0, 0, 0), true);
        Check.due("25: of 1", hall.holds(0, 0, 1, 0, 0), false);
        for (int none : NO_VARIABLES) {
            Check.dueThrow("25: sum(" + none + ", 0, 0)", hall, ARGUMENT, h -> h.sum(none, 0, 0));
            Check.dueThrow("25: sum(0, " + none + ", 0)", hall, ARGUMENT, h -> h.sum(0, none, 0));
            Check.dueThrow("25: sum(0, 0, " + none + ")", hall, ARGUMENT, h -> h.sum(0, 0, none));
        }
        Check.dueThrowLeavesAll("25: sum(0, 1, 5) with 6", Halls::fillUp, ARGUMENT, h -> h.sum(0, 1, 5));
        Check.dueThrowLeavesAll("25: sum(0, 1, 2) with 6", Halls::fillUp, STATE, h -> h.sum(0, 1, 2));
    }

    private static void number() {
        int[] states = {2, 3, 4, 4, 5, 5, 5, 5, 6, 6, 6, 6, 6, 6, 6, 6, 7, 7, 7, 7, 7};
        for (int told = 0; told <= 20; told++) {
            Morphichall hall = new Morphichall();
            Check.due("26: number", hall.number(3, told), 1);
            dueTop(hall, "26: the number " + told, 8, states[told]);
            for (int asked = 0; asked < 45; asked++) {
                Check.due("26: " + told + " is " + asked, hall.holds(1, 1, 1, asked, 1), told == asked);
            }
        }
        Morphichall hall = new Morphichall();
        for (int none : NO_VARIABLES) {
            Check.dueThrow("26: number(" + none + ", 0)", hall, ARGUMENT, h -> h.number(none, 0));
        }
        for (int none : new int[] {-1, 21, Integer.MIN_VALUE, Integer.MAX_VALUE}) {
            Check.dueThrow("26: number(0, " + none + ")", hall, ARGUMENT, h -> h.number(0, none));
        }
        Check.dueThrowLeavesAll("26: number(0, 21) with 6", Halls::fillUp, ARGUMENT, h -> h.number(0, 21));
        Check.dueThrowLeavesAll("26: number(0, 20) with 6", Halls::fillUp, STATE, h -> h.number(0, 20));
    }

    private static void letterIs() {
        Morphichall hall = new Morphichall();
        int thue = Halls.automaton(hall, "a01", "b10");
        Check.due("27: letterIs", hall.letterIs(thue, 1, 'b'), 1);
        dueTop(hall, "27: letterIs", 2, 2);
        Check.due("27: at 7", hall.holds(0, 7, 0, 0, 0), true);
        hall.give(thue, 1, 'a');
        Check.due("27: as it was then", hall.holds(0, 7, 0, 0, 0), true);
        hall.letterIs(thue, 1, 'b');
        dueTop(hall, "27: b is nowhere", 2, 1);
        int noughts = Halls.automaton(hall, "a10", "b11");
        hall.letterIs(noughts, 0, 'b');
        dueTop(hall, "27: noughts ahead make no difference", 1, 3);
        for (int place = 0; place < 40; place++) {
            Check.due("27: letterIs as letterAt(" + place + ")", hall.holds(place, 0, 0, 0, 0),
                    hall.letterAt(noughts, place) == 'b');
        }
        int three = hall.automaton(3, 1);
        Halls.morphism(hall, "ab", "a");
        int letters = hall.fixed(0);
        Check.dueThrow("27: base 3", hall, UNSUPPORTED, h -> h.letterIs(three, 9, 'e'));
        Check.dueThrow("27: one by letters", hall, UNSUPPORTED, h -> h.letterIs(letters, 0, 'a'));
        Check.dueThrow("27: no letter", hall, ARGUMENT, h -> h.letterIs(thue, 0, 'e'));
        for (int none : NO_VARIABLES) {
            Check.dueThrow("27: the variable " + none, hall, ARGUMENT, h -> h.letterIs(thue, none, 'a'));
        }
        Check.dueThrowLeavesAll("27: no such sequence", Halls::fillUp, INDEX, h -> h.letterIs(8, 9, 'e'));
        Check.dueThrowLeavesAll("27: by letters, with 6", Halls::fillUp, UNSUPPORTED, h -> h.letterIs(1, 9, 'e'));
        Check.dueThrowLeavesAll("27: no letter, with 6", Halls::fillUp, ARGUMENT, h -> h.letterIs(0, 0, 'e'));
        Check.dueThrowLeavesAll("27: with 6", Halls::fillUp, STATE, h -> h.letterIs(0, 0, 'a'));
    }

    private static void same() {
        Morphichall hall = new Morphichall();
        int thue = Halls.automaton(hall, "a01", "b10");
        Check.due("28: same", hall.same(thue, 0, 1), 1);
        dueTop(hall, "28: same", 3, 2);
        Check.due("28: at 3 and 12", hall.holds(3, 12, 0, 0, 0), true);
        Check.due("28: at 3 and 13", hall.holds(3, 13, 0, 0, 0), false);
        hall.same(thue, 4, 4);
        dueTop(hall, "28: of one", 16, 1);
        int noughts = Halls.automaton(hall, "a10", "b12", "c20");
        hall.same(noughts, 2, 3);
        for (int one = 0; one < 12; one++) {
            for (int other = 0; other < 12; other++) {
                Check.due("28: same at " + one + " and " + other, hall.holds(0, 0, one, other, 0),
                        hall.letterAt(noughts, one) == hall.letterAt(noughts, other));
            }
        }
        int three = hall.automaton(3, 1);
        Check.dueThrow("28: base 3", hall, UNSUPPORTED, h -> h.same(three, 9, 9));
        for (int none : NO_VARIABLES) {
            Check.dueThrow("28: same(0, " + none + ", 0)", hall, ARGUMENT, h -> h.same(thue, none, 0));
            Check.dueThrow("28: same(0, 0, " + none + ")", hall, ARGUMENT, h -> h.same(thue, 0, none));
        }
        Check.dueThrowLeavesAll("28: no such sequence", Halls::fillUp, INDEX, h -> h.same(-1, 9, 9));
        Check.dueThrowLeavesAll("28: by letters, with 6", Halls::fillUp, UNSUPPORTED, h -> h.same(1, 9, 9));
        Check.dueThrowLeavesAll("28: no variable, with 6", Halls::fillUp, ARGUMENT, h -> h.same(0, 0, 5));
        Check.dueThrowLeavesAll("28: with 6", Halls::fillUp, STATE, h -> h.same(0, 0, 1));
    }

    private static void join() {
        Morphichall hall = new Morphichall();
        hall.equal(3, 4);
        hall.less(0, 1);
        hall.less(1, 2);
        Check.due("29: join by and", hall.join(true), 2);
        dueTop(hall, "29: and", 7, 5);
        Check.due("29: 1, 2, 3", hall.holds(1, 2, 3, 0, 1), true);
        Check.due("29: 1, 2, 2", hall.holds(1, 2, 2, 0, 1), false);
        Check.due("29: join by or", hall.join(false), 1);
        Check.due("29: or, free()", hall.free(), 31);
        Check.due("29: or, by the lower one", hall.holds(9, 2, 3, 5, 5), true);
        Check.due("29: or, by the other one", hall.holds(1, 2, 3, 5, 6), true);
        Check.due("29: or, by none", hall.holds(1, 1, 3, 5, 6), false);
        Check.dueThrow("29: one alone", hall, NO_ELEMENT, h -> h.join(true));
        Check.dueThrowLeavesAll("29: none", NEW, NO_ELEMENT, h -> h.join(false));
        Check.dueThrowLeavesAll("29: one alone", h -> h.less(0, 1), NO_ELEMENT, h -> h.join(false));
    }

    /** Two letters of two places each, with 64 states, and a difference that is known by 3 more. */
    private static void manyPairs(Morphichall hall) {
        int ring = Halls.automaton(hall, Halls.ring(8));
        hall.letterIs(ring, 0, 'b');
        hall.letterIs(ring, 1, 'b');
        hall.join(true);
    }

    private static void joinRefused() {
        Morphichall hall = new Morphichall();
        manyPairs(hall);
        Check.due("29: 64 states", hall.states(), 64);
        hall.letterIs(0, 2, 'b');
        Check.dueThrow("29: 512 pairs", hall, UNSUPPORTED, h -> h.join(true));
        Check.dueThrow("29: 512 pairs, by or", hall, UNSUPPORTED, h -> h.join(false));
        Check.due("29: both still stand", hall.drop(), 1);
        Check.due("29: the lower one, too", hall.states(), 64);
        hall.less(2, 3);
        Check.due("29: 192 pairs", hall.join(true), 1);
        dueTop(hall, "29: 192 pairs", 15, 129);
        hall.equal(4, 4);
        Check.due("29: 129 pairs with one that is true", hall.join(true), 1);
        Check.due("29: free with it", hall.free(), 31);
        Check.dueThrowLeavesAll("29: refused", h -> {
            Halls.fill(h);
            h.drop();
            h.drop();
            h.drop();
            int ring = Halls.automaton(h, Halls.ring(8));
            for (int i = 0; i < 3; i++) {
                h.letterIs(ring, i, 'b');
                if (i == 1) {
                    h.join(true);
                }
            }
        }, UNSUPPORTED, h -> h.join(true));
        dueLimit();
    }

    private static Morphichall withTurning(int states) {
        return Check.prepared(hall -> Halls.automaton(hall, Halls.ring(states)));
    }

    private static void dueLimit() {
        Morphichall hall = withTurning(5);
        hall.letterIs(0, 0, 'b');
        hall.same(0, 1, 2);
        hall.join(false);
        hall.number(0, 3);
        Check.due("29: 200 pairs", hall.join(false), 1);
        dueTop(hall, "29: 200 pairs", 7, 174);
        hall = withTurning(8);
        hall.same(0, 0, 1);
        hall.sum(0, 2, 1);
        hall.join(false);
        int states = hall.states();
        hall.sum(2, 1, 2);
        Check.dueThrow("29: 201 pairs", hall, UNSUPPORTED, h -> h.join(true));
        Check.dueThrow("29: 201 pairs, by or", hall, UNSUPPORTED, h -> h.join(false));
        dueTop(hall, "29: 201 pairs, the top one", 6, 2);
        Check.due("29: 201 pairs, both stand", hall.drop(), 1);
        dueTop(hall, "29: 201 pairs, the lower one", 7, states);
        hall = Check.prepared(Halls::fillRing);
        dueTop(hall, "29: 8 times 5 times 5", 7, 200);
        Check.due("30: not with 200", hall.not(), 200);
        Check.due("31: exists with 200", hall.exists(4), 200);
        Check.due("32: forAll with 200", hall.forAll(3), 200);
        hall.equal(0, 0);
        Check.due("29: 200 pairs with one that is true", hall.join(true), 1);
        dueTop(hall, "29: it stays", 7, 200);
    }

    private static void dueLimitOfSets() {
        Morphichall hall = withTurning(8);
        hall.same(0, 1, 0);
        hall.number(2, 0);
        hall.join(true);
        hall.sum(0, 2, 1);
        hall.join(false);
        Check.due("31: 200 sets", hall.exists(2), 73);
        dueTop(hall, "31: 200 sets", 3, 73);
        hall = withTurning(7);
        hall.less(0, 1);
        hall.number(2, 10);
        hall.join(false);
        hall.equal(0, 2);
        hall.join(false);
        hall.letterIs(0, 1, 'b');
        hall.join(false);
        int states = hall.states();
        Check.dueThrow("31: 201 sets", hall, UNSUPPORTED, h -> h.exists(1));
        Check.dueThrow("32: 201 sets", hall, UNSUPPORTED, h -> h.forAll(1));
        dueTop(hall, "31: 201 sets, it stays", 7, states);
    }

    private static void not() {
        Morphichall hall = new Morphichall();
        hall.equal(0, 1);
        hall.less(0, 1);
        Check.due("30: not", hall.not(), 3);
        dueTop(hall, "30: not", 3, 3);
        Check.due("30: 1, 2", hall.holds(1, 2, 0, 0, 0), false);
        Check.due("30: 2, 2", hall.holds(2, 2, 0, 0, 0), true);
        Check.due("30: not again", hall.not(), 3);
        Check.due("30: 1, 2 again", hall.holds(1, 2, 0, 0, 0), true);
        hall.drop();
        Check.due("30: the lower one stays", hall.holds(2, 2, 0, 0, 0), true);
        Check.dueThrowLeavesAll("30: none", NEW, NO_ELEMENT, Morphichall::not);
    }

    private static void exists() {
        Morphichall hall = new Morphichall();
        hall.sum(0, 1, 2);
        hall.number(0, 3);
        hall.join(true);
        Check.due("31: that there is a number", hall.exists(0), 5);
        dueTop(hall, "31: three more", 6, 5);
        Check.due("31: 4, 7", hall.holds(9, 4, 7, 0, 0), true);
        Check.due("31: 4, 8", hall.holds(9, 4, 8, 0, 0), false);
        Check.due("31: for 1", hall.exists(1), 4);
        dueTop(hall, "31: at least three", 4, 4);
        Check.due("31: 2", hall.holds(0, 0, 2, 0, 0), false);
        Check.due("31: 3", hall.holds(0, 0, 3, 0, 0), true);
        Check.due("31: one that was never free", hall.exists(4), 4);
        dueTop(hall, "31: one that was never free", 4, 4);
        Check.due("31: for 2", hall.exists(2), 1);
        dueTop(hall, "31: none free", 0, 1);
        Check.due("31: once more", hall.exists(2), 1);
        Check.due("31: it is so", hall.isTrue(), true);
        hall.less(0, 1);
        Check.due("31: the number may have more digits", hall.exists(1), 1);
        Check.due("31: more than 1000000", hall.holds(1000000, 0, 0, 0, 0), true);
        hall.less(0, 1);
        hall.exists(0);
        Check.due("31: none below 0", hall.holds(0, 0, 0, 0, 0), false);
        Check.due("31: one below 1", hall.holds(0, 1, 0, 0, 0), true);
        for (int none : NO_VARIABLES) {
            Check.dueThrow("31: exists(" + none + ")", hall, ARGUMENT, h -> h.exists(none));
        }
        Check.dueThrowLeavesAll("31: no variable, none", NEW, ARGUMENT, h -> h.exists(5));
        Check.dueThrowLeavesAll("31: none", NEW, NO_ELEMENT, h -> h.exists(0));
    }

    /** How many ones x has, and y, by their rests, and what both are together; x and y are then forgotten. */
    private static void makeRests(Morphichall hall, int one, int other) {
        int first = Halls.automaton(hall, Halls.ring(one));
        int second = Halls.automaton(hall, Halls.ring(other));
        hall.letterIs(first, 0, 'b');
        hall.letterIs(second, 1, 'b');
        hall.join(true);
        hall.sum(0, 1, 2);
        hall.join(true);
    }

    private static void existsRefused() {
        Morphichall hall = new Morphichall();
        makeRests(hall, 8, 8);
        dueTop(hall, "31: rests by 8 and 8", 7, 129);
        Check.dueThrow("31: too many sets", hall, UNSUPPORTED, h -> h.exists(0));
        Check.dueThrow("32: too many sets", hall, UNSUPPORTED, h -> h.forAll(0));
        dueTop(hall, "31: as it was", 7, 129);
        Check.due("31: for one that was never free", hall.exists(3), 129);
        hall = new Morphichall();
        makeRests(hall, 8, 3);
        Check.due("31: rests by 8 and 3", hall.exists(0), 196);
        Check.dueThrow("31: and for the other one", hall, UNSUPPORTED, h -> h.exists(1));
        Check.dueThrow("32: and for the other one", hall, UNSUPPORTED, h -> h.forAll(1));
        dueTop(hall, "31: as it was by 8 and 3", 6, 196);
        hall = new Morphichall();
        makeRests(hall, 4, 2);
        Check.due("31: rests by 4 and 2", hall.exists(0), 35);
        Check.due("32: rests by 4 and 2", hall.forAll(1), 1);
        Check.dueThrowLeavesAll("31: all stays", h -> makeRests(h, 8, 6), UNSUPPORTED, h -> h.exists(0));
        Check.dueThrowLeavesAll("32: all stays", h -> makeRests(h, 8, 5), UNSUPPORTED, h -> h.forAll(0));
        Check.dueThrowLeavesAll("31: no variable first", h -> makeRests(h, 8, 8), ARGUMENT, h -> h.exists(5));
    }

    private static void forAll() {
        Morphichall hall = new Morphichall();
        hall.less(0, 1);
        hall.not();
        Check.due("32: none is more", hall.forAll(1), 1);
        Check.due("32: that is so for no number", hall.holds(5, 0, 0, 0, 0), false);
        dueTop(hall, "32: none is more", 1, 1);
        hall.less(1, 0);
        hall.not();
        Check.due("32: none is less", hall.forAll(1), 2);
        Check.due("32: than 0", hall.holds(0, 0, 0, 0, 0), true);
        Check.due("32: than 1", hall.holds(1, 0, 0, 0, 0), false);
        Check.due("32: one that was never free", hall.forAll(3), 2);
        Check.due("32: for all of them", hall.forAll(0), 1);
        Check.due("32: it is not so", hall.isTrue(), false);
        for (int none : NO_VARIABLES) {
            Check.dueThrow("32: forAll(" + none + ")", hall, ARGUMENT, h -> h.forAll(none));
        }
        Check.dueThrowLeavesAll("32: no variable, none", NEW, ARGUMENT, h -> h.forAll(-1));
        Check.dueThrowLeavesAll("32: none", NEW, NO_ELEMENT, h -> h.forAll(4));
    }

    private static void drop() {
        Morphichall hall = new Morphichall();
        hall.equal(0, 1);
        hall.less(2, 3);
        Check.due("33: drop", hall.drop(), 1);
        Check.due("33: the one below", hall.free(), 3);
        Check.due("33: the last one", hall.drop(), 0);
        Check.dueThrowLeavesAll("33: none", NEW, NO_ELEMENT, Morphichall::drop);
        Morphichall full = Check.prepared(Halls::fillUp);
        full.drop();
        Check.due("33: there is room again", full.equal(0, 1), 6);
    }

    private static void free() {
        Morphichall hall = new Morphichall();
        for (int x = 0; x < 5; x++) {
            hall.equal(x, x);
            Check.due("34: free, it makes no difference", hall.free(), 1 << x);
        }
        for (int i = 0; i < 4; i++) {
            hall.join(true);
        }
        Check.due("34: all", hall.free(), 31);
        hall.exists(3);
        Check.due("34: but for 3", hall.free(), 23);
        hall.not();
        hall.forAll(0);
        Check.due("34: but for 0", hall.free(), 22);
        Check.dueThrowLeavesAll("34: none", NEW, NO_ELEMENT, Morphichall::free);
    }

    private static void states() {
        Morphichall hall = new Morphichall();
        hall.number(1, 16);
        Check.due("35: states", hall.states(), 7);
        hall.number(1, 17);
        hall.join(true);
        Check.due("35: nothing can hold any more", hall.states(), 1);
        Check.due("35: free all the same", hall.free(), 2);
        Check.dueThrowLeavesAll("35: none", NEW, NO_ELEMENT, Morphichall::states);
    }

    private static void isTrue() {
        Morphichall hall = new Morphichall();
        hall.equal(0, 0);
        Check.dueThrow("36: a free variable", hall, UNSUPPORTED, Morphichall::isTrue);
        hall.forAll(0);
        Check.due("36: true", hall.isTrue(), true);
        hall.not();
        Check.due("36: false", hall.isTrue(), false);
        Check.due("36: it holds for all or none", hall.holds(1, 2, 3, 4, 5), false);
        Check.dueThrowLeavesAll("36: none", NEW, NO_ELEMENT, Morphichall::isTrue);
        Check.dueThrowLeavesAll("36: a free variable, all stays", Halls::fill, UNSUPPORTED, Morphichall::isTrue);
    }

    private static void holds() {
        Morphichall hall = new Morphichall();
        hall.sum(0, 1, 2);
        hall.less(3, 4);
        hall.join(true);
        Check.due("37: all five", hall.holds(1, 2, 3, 4, 5), true);
        Check.due("37: the greatest ones", hall.holds(0, 1000000, 1000000, 999999, 1000000), true);
        Check.due("37: not so", hall.holds(1, 2, 3, 5, 4), false);
        for (int none : new int[] {-1, 1000001, Integer.MIN_VALUE, Integer.MAX_VALUE}) {
            for (int at = 0; at < 5; at++) {
                int[] numbers = new int[5];
                numbers[at] = none;
                Check.dueThrow("37: " + none + " for " + at, hall, ARGUMENT,
                        h -> h.holds(numbers[0], numbers[1], numbers[2], numbers[3], numbers[4]));
            }
        }
        Check.dueThrowLeavesAll("37: out of range, none", NEW, ARGUMENT, h -> h.holds(0, 0, 0, 0, -1));
        Check.dueThrowLeavesAll("37: none", NEW, NO_ELEMENT, h -> h.holds(0, 0, 0, 0, 0));
    }

    private static void count() {
        Morphichall hall = new Morphichall();
        Halls.automaton(hall, "a01", "b10");
        hall.letterIs(0, 0, 'b');
        Check.due("38: below 1000", hall.count(0, 1000), 500);
        Check.due("38: below 2", hall.count(0, 2), 1);
        Check.due("38: below 1", hall.count(0, 1), 0);
        Check.due("38: below 0", hall.count(0, 0), 0);
        Check.due("38: the others being 0", hall.count(1, 77), 0);
        hall.not();
        Check.due("38: one that is not free", hall.count(1, 77), 77);
        hall.less(1, 2);
        Check.due("38: for 2", hall.count(2, 1000), 999);
        Check.due("38: for 1", hall.count(1, 1000), 0);
        hall.number(4, 20);
        Check.due("38: below 20", hall.count(4, 20), 0);
        Check.due("38: below 21", hall.count(4, 21), 1);
        hall.holds(1, 2, 3, 4, 5);
        Check.due("38: whatever was asked before", hall.count(4, 1000), 1);
        for (int none : NO_VARIABLES) {
            Check.dueThrow("38: count(" + none + ", 1)", hall, ARGUMENT, h -> h.count(none, 1));
        }
        for (int none : new int[] {-1, 1001, Integer.MIN_VALUE, Integer.MAX_VALUE}) {
            Check.dueThrow("38: count(0, " + none + ")", hall, ARGUMENT, h -> h.count(0, none));
        }
        Check.dueThrowLeavesAll("38: out of range, none", NEW, ARGUMENT, h -> h.count(0, 1001));
        Check.dueThrowLeavesAll("38: none", NEW, NO_ELEMENT, h -> h.count(0, 1));
    }

    /** What is known of the word of Thue and Morse: it has squares, and no overlap of a letter thrice. */
    private static void theorems() {
        Morphichall hall = new Morphichall();
        int thue = Halls.automaton(hall, "a01", "b10");
        hall.number(4, 1);
        hall.sum(0, 4, 1);
        hall.join(true);
        hall.exists(4);
        hall.same(thue, 0, 1);
        hall.join(true);
        hall.exists(1);
        hall.exists(0);
        Check.due("31: two neighbours are the same", hall.isTrue(), true);
        hall.drop();
        hall.number(4, 1);
        hall.sum(0, 4, 1);
        hall.join(true);
        hall.same(thue, 0, 1);
        hall.join(true);
        hall.number(4, 1);
        hall.sum(1, 4, 2);
        hall.join(true);
        hall.same(thue, 1, 2);
        hall.join(true);
        hall.join(true);
        for (int x = 0; x < 5; x++) {
            hall.exists(x);
        }
        Check.due("31: three neighbours are the same", hall.isTrue(), false);
    }
}
