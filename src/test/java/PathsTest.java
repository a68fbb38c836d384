/** Promises 48, 49 and 52: the turtle, and whether all is sound. */
final class PathsTest {
    private static final Class<IllegalArgumentException> ARGUMENT = IllegalArgumentException.class;
    private static final Class<IndexOutOfBoundsException> INDEX = IndexOutOfBoundsException.class;

    public static void main(String[] args) {
        command();
        path();
        turns();
        isSound();
        Check.end("PathsTest");
    }

    private static void command() {
        Morphichall hall = new Morphichall();
        Check.due("48: a on", hall.command('a', 'f'), 1);
        Check.due("48: b left", hall.command('b', 'l'), 2);
        Check.due("48: c right", hall.command('c', 'r'), 3);
        Check.due("48: d on", hall.command('d', 'f'), 4);
        Check.due("48: d once more", hall.command('d', 'l'), 4);
        Check.due("48: b nothing", hall.command('b', '-'), 3);
        Check.due("48: b nothing again", hall.command('b', '-'), 3);
        for (char none : new char[] {'e', '`', 'A', 0, '\uffff'}) {
            Check.dueThrow("48: the letter " + (int) none, hall, ARGUMENT, h -> h.command(none, 'f'));
        }
        for (char none : new char[] {'q', 'F', 0, 'x', '+', '\uffff'}) {
            Check.dueThrow("48: the command " + (int) none, hall, ARGUMENT, h -> h.command('a', none));
        }
        Check.due("48: nothing has changed", hall.command('a', 'f'), 3);
        Check.dueThrowLeavesAll("48: command('a', 'q')", Halls::fill, ARGUMENT, h -> h.command('a', 'q'));
        Check.dueThrowLeavesAll("48: command('e', 'f')", Halls::fill, ARGUMENT, h -> h.command('e', 'f'));
    }

    private static void path() {
        Morphichall hall = new Morphichall();
        int line = hall.automaton(2, 1);
        Check.due("49: nothing at first", hall.path(line, 1000, 'n'), 1);
        hall.command('a', 'f');
        Check.due("49: no places", hall.path(line, 0, 'x'), 0);
        Check.due("49: no places, n", hall.path(line, 0, 'n'), 1);
        Check.due("49: on by 1", hall.path(line, 1000, 'x'), 1000);
        Check.due("49: not up", hall.path(line, 1000, 'y'), 0);
        Check.due("49: 1001 places", hall.path(line, 1000, 'n'), 1001);
        for (int none : new int[] {-1, 1001, Integer.MIN_VALUE, Integer.MAX_VALUE}) {
            Check.dueThrow("49: " + none + " places", hall, ARGUMENT, h -> h.path(line, none, 'x'));
        }
        for (char none : new char[] {'z', 'X', 'N', 0, 'f', '\uffff'}) {
            Check.dueThrow("49: what " + (int) none, hall, ARGUMENT, h -> h.path(line, 5, none));
        }
        Check.dueThrow("49: no such sequence first", hall, INDEX, h -> h.path(1, -1, 'z'));
        Check.dueThrowLeavesAll("49: path(-1, 5, 'x')", Halls::fill, INDEX, h -> h.path(-1, 5, 'x'));
        Check.dueThrowLeavesAll("49: path(0, 1001, 'x')", Halls::fill, ARGUMENT, h -> h.path(0, 1001, 'x'));
        Check.dueThrowLeavesAll("49: path(0, 5, 'z')", Halls::fill, ARGUMENT, h -> h.path(0, 5, 'z'));
    }

    /** The text is abacadaaa: on, left, on, right, on, nothing, on, on, on; then with left and right changed. */
    private static void turns() {
        Morphichall hall = new Morphichall();
        Halls.morphism(hall, "abacad", "aaaaaa", "c", "d");
        int text = hall.fixed(0);
        hall.command('a', 'f');
        hall.command('b', 'l');
        hall.command('c', 'r');
        dueWalk(hall, text, 1, 1, 0, 2);
        dueWalk(hall, text, 2, 1, 0, 2);
        dueWalk(hall, text, 3, 1, 1, 3);
        dueWalk(hall, text, 5, 2, 1, 4);
        dueWalk(hall, text, 6, 2, 1, 4);
        dueWalk(hall, text, 9, 5, 1, 7);
        hall.command('b', 'r');
        hall.command('c', 'l');
        dueWalk(hall, text, 3, 1, -1, 3);
        dueWalk(hall, text, 5, 2, -1, 4);
        hall.command('d', 'r');
        dueWalk(hall, text, 9, 2, -4, 7);
        Morphichall square = new Morphichall();
        Halls.morphism(square, "abab", "abab");
        int round = square.fixed(0);
        square.command('a', 'f');
        square.command('b', 'l');
        dueWalk(square, round, 3, 1, 1, 3);
        dueWalk(square, round, 5, 0, 1, 4);
        dueWalk(square, round, 7, 0, 0, 4);
        dueWalk(square, round, 1000, 0, 0, 4);
        square.command('b', 'r');
        dueWalk(square, round, 5, 0, -1, 4);
        dueWalk(square, round, 999, 0, 0, 4);
    }

    private static void dueWalk(Morphichall hall, int sequence, int places, int x, int y, int unlike) {
        Check.due("49: x of " + places, hall.path(sequence, places, 'x'), x);
        Check.due("49: y of " + places, hall.path(sequence, places, 'y'), y);
        Check.due("49: n of " + places, hall.path(sequence, places, 'n'), unlike);
    }

    private static void isSound() {
        Check.due("52: a new hall", new Morphichall().isSound(), true);
        Check.due("52: a full one", Check.prepared(Halls::fillUp).isSound(), true);
        Morphichall hall = Check.prepared(Halls::fill);
        Check.due("52: with formulas", hall.isSound(), true);
        String after = View.of(() -> {
            Morphichall asked = Check.prepared(Halls::fill);
            asked.isSound();
            return asked;
        });
        Check.due("52: nothing has changed", after, View.of(() -> Check.prepared(Halls::fill)));
        Morphichall noughts = new Morphichall();
        Halls.automaton(noughts, "a10", "b12", "c20");
        noughts.letterIs(0, 0, 'b');
        noughts.same(0, 1, 2);
        noughts.join(false);
        noughts.exists(1);
        Check.due("52: whatever noughts are ahead", noughts.isSound(), true);
        noughts.not();
        Check.due("52: turned over", noughts.isSound(), true);
    }
}
