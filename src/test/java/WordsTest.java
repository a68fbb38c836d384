import java.util.function.Consumer;

/** Promises 1 to 8: a new hall, the word, and morphisms. */
final class WordsTest {
    private static final Class<IllegalArgumentException> ARGUMENT = IllegalArgumentException.class;
    private static final Class<IllegalStateException> STATE = IllegalStateException.class;
    private static final Class<IndexOutOfBoundsException> INDEX = IndexOutOfBoundsException.class;
    private static final Consumer<Morphichall> NEW = hall -> { };

    public static void main(String[] args) {
        newHall();
        type();
        wipe();
        morphism();
        setImage();
        uniform();
        isPrimitive();
        grown();
        Check.end("WordsTest");
    }

    private static void newHall() {
        Morphichall hall = new Morphichall();
        Check.due("1: sequences()", hall.sequences(), 0);
        Check.due("1: wipe()", hall.wipe(), 0);
        Check.due("1: checksum()", hall.checksum(), 7);
        Check.due("1: isSound()", hall.isSound(), true);
        Check.dueThrow("1: uniform(0)", hall, INDEX, h -> h.uniform(0));
        Check.dueThrow("1: drop()", hall, java.util.NoSuchElementException.class, Morphichall::drop);
        Check.dueThrow("1: term(0, 0)", hall, INDEX, h -> h.term(0, 0));
        Check.dueThrow("1: slope()", hall, UnsupportedOperationException.class, Morphichall::slope);
        Check.dueThrow("1: avoiders(2, 0)", hall, java.util.NoSuchElementException.class, h -> h.avoiders(2, 0));
        Morphichall other = new Morphichall();
        hall.type('a');
        Check.due("1: another hall's wipe()", other.wipe(), 0);
    }

    private static void type() {
        Morphichall hall = new Morphichall();
        for (int i = 1; i <= 40; i++) {
            Check.due("2: type, the letter " + i, hall.type("abcd".charAt(i % 4)), i);
        }
        Check.dueThrow("2: type with 40", hall, STATE, h -> h.type('a'));
        Check.dueThrow("2: type with 40, no letter", hall, ARGUMENT, h -> h.type('e'));
        Check.due("2: wipe() after the throws", hall.wipe(), 40);
        for (char none : new char[] {'e', '`', 'A', 0, 'z', '\uffff', (char) ('a' + 256)}) {
            Check.dueThrowLeavesAll("2: type(" + (int) none + ")", Halls::fill, ARGUMENT, h -> h.type(none));
        }
        Check.dueThrowLeavesAll("2: type('a') with 40", Halls::fillUp, STATE, h -> h.type('a'));
    }

    private static void wipe() {
        Morphichall hall = new Morphichall();
        Halls.type(hall, "abc");
        Check.due("3: wipe()", hall.wipe(), 3);
        Check.due("3: wipe() again", hall.wipe(), 0);
        Check.due("3: type behind it", hall.type('d'), 1);
    }

    private static void morphism() {
        Morphichall hall = new Morphichall();
        for (int i = 0; i < 6; i++) {
            Check.due("4: morphism, the one " + i, hall.morphism(2 + i % 3), i);
        }
        Check.dueThrow("4: a seventh", hall, STATE, h -> h.morphism(2));
        Check.dueThrow("4: a seventh of 5", hall, ARGUMENT, h -> h.morphism(5));
        Check.due("4: each letter is its own image", hall.uniform(2), 1);
        Check.due("4: each letter stays itself", hall.grown(2, 'd', 20), 1);
        Halls.type(hall, "abcd");
        hall.setImage(2, 'a');
        Check.due("4: the others are still themselves", Halls.text(hall, hall.fixed(2), 0, 12), "abcdbcdbcdbc");
        for (int none : new int[] {1, 5, 0, -1, Integer.MIN_VALUE, Integer.MAX_VALUE}) {
            Check.dueThrowLeavesAll("4: morphism(" + none + ")", Halls::fill, ARGUMENT, h -> h.morphism(none));
        }
        Check.dueThrowLeavesAll("4: morphism(2) with 6", Halls::fillUp, STATE, h -> h.morphism(2));
    }

    private static void setImage() {
        Morphichall hall = new Morphichall();
        hall.morphism(3);
        Halls.type(hall, "abccba");
        Check.due("5: six letters", hall.setImage(0, 'c'), 6);
        Check.due("5: the word stays", hall.type('a'), 7);
        Check.dueThrow("5: seven letters", hall, ARGUMENT, h -> h.setImage(0, 'a'));
        Check.due("5: the image of c", hall.grown(0, 'c', 1), 6);
        Check.due("5: the image of a", hall.grown(0, 'a', 1), 1);
        Halls.type(hall, "b");
        Check.due("5: one letter", hall.setImage(0, 'c'), 1);
        Check.due("5: the image of c is told anew", hall.grown(0, 'c', 1), 1);
        hall.wipe();
        Check.dueThrow("5: the empty word", hall, ARGUMENT, h -> h.setImage(0, 'a'));
        Halls.type(hall, "ad");
        Check.dueThrow("5: a letter that is not its own", hall, ARGUMENT, h -> h.setImage(0, 'a'));
        Halls.type(hall, "ab");
        Check.dueThrow("5: no such letter of it", hall, ARGUMENT, h -> h.setImage(0, 'd'));
        Check.dueThrow("5: no letter at all", hall, ARGUMENT, h -> h.setImage(0, '`'));
        Check.dueThrow("5: no such morphism", hall, INDEX, h -> h.setImage(1, 'a'));
        Check.dueThrow("5: no such morphism and letter", hall, INDEX, h -> h.setImage(-1, 'e'));
        Check.dueThrowLeavesAll("5: setImage(2, 'a')", Halls::fill, INDEX, h -> h.setImage(2, 'a'));
        Check.dueThrowLeavesAll("5: setImage(0, 'c')", Halls::fill, ARGUMENT, h -> h.setImage(0, 'c'));
        Check.dueThrowLeavesAll("5: a word of 40", Halls::fillUp, ARGUMENT, h -> h.setImage(0, 'a'));
    }

    private static void uniform() {
        Morphichall hall = new Morphichall();
        Halls.morphism(hall, "ab", "ba");
        Halls.morphism(hall, "abc", "b", "ccc");
        Halls.morphism(hall, "aaaaaa", "bbbbbb", "cccccc", "dddddd");
        Halls.morphism(hall, "ab", "ba", "ccc");
        Check.due("6: uniform", hall.uniform(0), 2);
        Check.due("6: not uniform", hall.uniform(1), 0);
        Check.due("6: of the length 6", hall.uniform(2), 6);
        Check.due("6: the last one is longer", hall.uniform(3), 0);
        Check.dueThrowLeavesAll("6: uniform(-1)", Halls::fill, INDEX, h -> h.uniform(-1));
        Check.dueThrowLeavesAll("6: uniform(2)", Halls::fill, INDEX, h -> h.uniform(2));
        Check.dueThrowLeavesAll("6: uniform(6)", Halls::fillUp, INDEX, h -> h.uniform(6));
    }

    private static void isPrimitive() {
        Morphichall hall = new Morphichall();
        Check.due("7: ab, ba", hall.isPrimitive(Halls.morphism(hall, "ab", "ba")), true);
        Check.due("7: ab, a", hall.isPrimitive(Halls.morphism(hall, "ab", "a")), true);
        Check.due("7: b, a comes and goes", hall.isPrimitive(Halls.morphism(hall, "b", "a")), false);
        Check.due("7: ab, b has no a", hall.isPrimitive(Halls.morphism(hall, "ab", "b")), false);
        Check.due("7: after 10 times", hall.isPrimitive(Halls.morphism(hall, "b", "c", "d", "ab")), true);
        Check.due("7: as they are at first", hall.isPrimitive(hall.morphism(4)), false);
        Check.dueThrow("7: isPrimitive(6)", hall, INDEX, h -> h.isPrimitive(6));
        Check.dueThrowLeavesAll("7: isPrimitive(-1)", Halls::fill, INDEX, h -> h.isPrimitive(-1));
    }

    private static void grown() {
        Morphichall hall = new Morphichall();
        Halls.morphism(hall, "aaaaaa", "bbbbbb");
        Halls.morphism(hall, "ab", "a");
        Halls.morphism(hall, "ab", "bc", "c");
        Check.due("8: 6 to the power of 20", hall.grown(0, 'b', 20), 3656158440062976L);
        Check.due("8: no times", hall.grown(0, 'a', 0), 1);
        Check.due("8: as rabbits", hall.grown(1, 'a', 20), 17711);
        Check.due("8: from b", hall.grown(1, 'b', 20), 10946);
        Check.due("8: by squares", hall.grown(2, 'a', 20), 1 + 20 + 190);
        Check.due("8: c stays", hall.grown(2, 'c', 20), 1);
        Check.dueThrow("8: no such letter of it", hall, ARGUMENT, h -> h.grown(1, 'c', 1));
        Check.dueThrow("8: no letter", hall, ARGUMENT, h -> h.grown(1, 'e', 1));
        Check.dueThrow("8: no such morphism first", hall, INDEX, h -> h.grown(3, 'e', 21));
        for (int none : new int[] {-1, 21, Integer.MIN_VALUE, Integer.MAX_VALUE}) {
            Check.dueThrowLeavesAll("8: " + none + " times", Halls::fill, ARGUMENT, h -> h.grown(0, 'a', none));
        }
        Check.dueThrowLeavesAll("8: of a new hall", NEW, INDEX, h -> h.grown(0, 'a', 1));
    }
}
