import java.util.NoSuchElementException;

/** Promise 47: words that do not have a pattern. */
final class PatternsTest {
    private static final Class<IllegalArgumentException> ARGUMENT = IllegalArgumentException.class;
    private static final Class<NoSuchElementException> NO_ELEMENT = NoSuchElementException.class;

    public static void main(String[] args) {
        known();
        edges();
        allShortPatterns();
        allShapes("", 0);
        wrong();
        Check.end("PatternsTest");
    }

    private static void known() {
        int[] squares = {1, 3, 6, 12, 18, 30, 42, 60, 78, 108, 144};
        int[] cubes = {1, 2, 4, 6, 10, 16, 24, 36, 56, 80, 118};
        int[] overlaps = {1, 3, 9, 27, 81, 243};
        Morphichall hall = new Morphichall();
        for (int length = 0; length <= 10; length++) {
            Halls.type(hall, "dd");
            Check.due("47: without squares, of " + length, hall.avoiders(3, length), squares[length]);
            Halls.type(hall, "bbb");
            Check.due("47: without cubes, of " + length, hall.avoiders(2, length), cubes[length]);
        }
        Halls.type(hall, "aaaaaa");
        for (int length = 0; length <= 5; length++) {
            Check.due("47: too short for it, of " + length, hall.avoiders(3, length), overlaps[length]);
        }
        Check.due("47: just long enough", hall.avoiders(3, 6), 729 - 3);
    }

    private static void edges() {
        Morphichall hall = new Morphichall();
        Halls.type(hall, "c");
        Check.due("47: one letter, of 0", hall.avoiders(2, 0), 1);
        Check.due("47: one letter, of 1", hall.avoiders(3, 1), 0);
        Halls.type(hall, "abcd");
        Check.due("47: unlike letters may be alike, of 3", hall.avoiders(2, 3), 8);
        Check.due("47: unlike letters may be alike, of 4", hall.avoiders(2, 4), 0);
        Halls.type(hall, "aba");
        Check.due("47: aba, of 6", hall.avoiders(3, 6), 6);
        Halls.type(hall, "abcdabcdabcdabcdabcdabcdabcdabcdabcdabcd");
        Check.due("47: a pattern of 40", hall.avoiders(3, 10), 59049);
        Check.due("47: a pattern of 40, of two letters", hall.avoiders(2, 10), 1024);
        Halls.type(hall, "abcabcabca");
        Check.due("47: a pattern of 10", hall.avoiders(3, 10), 59049 - 27);
        Check.due("47: the word stays", hall.wipe(), 10);
    }

    private static void allShortPatterns() {
        for (int length = 1; length <= 5; length++) {
            for (int number = 0; number < 1 << 2 * length; number++) {
                StringBuilder pattern = new StringBuilder();
                for (int i = 0; i < length; i++) {
                    pattern.append((char) ('a' + (number >> 2 * i & 3)));
                }
                dueAsPlain(pattern.toString(), 2, 9);
                dueAsPlain(pattern.toString(), 3, 6);
            }
        }
    }

    private static void dueAsPlain(String pattern, int letters, int length) {
        Morphichall hall = new Morphichall();
        PlainHall plain = new PlainHall();
        Halls.type(hall, pattern);
        for (char letter : pattern.toCharArray()) {
            plain.type(letter);
        }
        Check.due("47: avoiders(" + letters + ", " + length + ") of " + pattern, hall.avoiders(letters, length),
                plain.avoiders(letters, length));
    }

    /** In words of 10 letters some of these patterns have hundreds of lengths for their pieces, all of them needed. */
    private static void allShapes(String pattern, int used) {
        for (int letter = 0; letter <= used && letter < 4 && pattern.length() < 5; letter++) {
            String longer = pattern + (char) ('a' + letter);
            dueAsPlain(longer, 3, 10);
            allShapes(longer, Math.max(used, letter + 1));
        }
    }

    private static void wrong() {
        Morphichall hall = new Morphichall();
        Check.dueThrow("47: the empty word", hall, NO_ELEMENT, h -> h.avoiders(2, 0));
        Check.dueThrow("47: the empty word, 4 letters", hall, ARGUMENT, h -> h.avoiders(4, 0));
        for (int none : new int[] {1, 4, 0, -1, Integer.MIN_VALUE, Integer.MAX_VALUE}) {
            Check.dueThrowLeavesAll("47: of " + none + " letters", Halls::fill, ARGUMENT, h -> h.avoiders(none, 3));
        }
        for (int none : new int[] {-1, 11, Integer.MIN_VALUE, Integer.MAX_VALUE}) {
            Check.dueThrowLeavesAll("47: the length " + none, Halls::fill, ARGUMENT, h -> h.avoiders(2, none));
        }
        Check.dueThrowLeavesAll("47: the empty word, all stays", h -> {
            Halls.fill(h);
            h.wipe();
        }, NO_ELEMENT, h -> h.avoiders(2, 3));
    }
}
