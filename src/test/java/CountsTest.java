import java.util.HashSet;
import java.util.Set;

/** Promises 39 to 42, and 50: counts of pieces, exponents, means. */
final class CountsTest {
    private static final Class<IllegalArgumentException> ARGUMENT = IllegalArgumentException.class;
    private static final Class<IndexOutOfBoundsException> INDEX = IndexOutOfBoundsException.class;

    private static Morphichall hall;
    private static int thue;
    private static int rabbits;
    private static int one;
    private static int four;

    public static void main(String[] args) {
        hall = new Morphichall();
        Halls.morphism(hall, "ab", "ba");
        Halls.morphism(hall, "ab", "a");
        thue = hall.automatonOf(0);
        rabbits = hall.fixed(1);
        one = hall.automaton(2, 1);
        four = Halls.automaton(hall, "a0123", "b1230", "c2301", "d3012");
        pieces();
        piecesByCounts();
        palindromes();
        onlyBelow600();
        exponent();
        meanLetter();
        Check.end("CountsTest");
    }

    private static void pieces() {
        int[] due = {2, 4, 6, 10, 12, 16, 20, 22, 24, 28, 32, 36};
        for (int length = 1; length <= 12; length++) {
            Check.due("39: pieces of " + length, hall.pieces(thue, length), due[length - 1]);
            Check.due("39: of rabbits, of " + length, hall.pieces(rabbits, length), length + 1);
            Check.due("39: of one letter, of " + length, hall.pieces(one, length), 1);
        }
        Check.due("39: of four letters", hall.pieces(four, 12), distinctOfFour(12, false));
        dueLength("39: pieces", 12, (h, sequence, length) -> h.pieces(sequence, length));
    }

    private interface Counted {
        int on(Morphichall hall, int sequence, int length);
    }

    private static void dueLength(String name, int longest, Counted call) {
        for (int none : new int[] {0, -1, longest + 1, Integer.MIN_VALUE, Integer.MAX_VALUE}) {
            Check.dueThrow(name + " of " + none, hall, ARGUMENT, h -> call.on(h, thue, none));
            Check.dueThrow(name + " of no such sequence first", hall, INDEX, h -> call.on(h, 4, none));
        }
        Check.dueThrowLeavesAll(name + " of 0", Halls::fill, ARGUMENT, h -> call.on(h, 0, 0));
        Check.dueThrowLeavesAll(name + " of the sequence -1", Halls::fill, INDEX, h -> call.on(h, -1, 1));
    }

    private static int distinctOfFour(int length, boolean onlyPalindromes) {
        Set<String> found = new HashSet<>();
        String text = fourText(600);
        for (int from = 0; from + length <= 600; from++) {
            String piece = text.substring(from, from + length);
            if (!onlyPalindromes || new StringBuilder(piece).reverse().toString().equals(piece)) {
                found.add(piece);
            }
        }
        return found.size();
    }

    private static String fourText(int places) {
        StringBuilder out = new StringBuilder();
        for (int place = 0; place < places; place++) {
            int total = 0;
            for (int rest = place; rest > 0; rest /= 4) {
                total += rest % 4;
            }
            out.append((char) ('a' + total % 4));
        }
        return out.toString();
    }

    private static void piecesByCounts() {
        for (int length = 1; length <= 60; length++) {
            Check.due("40: by counts, of " + length, hall.piecesByCounts(thue, length), length % 2 == 0 ? 3 : 2);
            Check.due("40: of rabbits, of " + length, hall.piecesByCounts(rabbits, length), 2);
        }
        Check.due("40: of one letter", hall.piecesByCounts(one, 60), 1);
        Check.due("40: of four letters, of 1", hall.piecesByCounts(four, 1), 4);
        dueLength("40: piecesByCounts", 60, (h, sequence, length) -> h.piecesByCounts(sequence, length));
    }

    private static void palindromes() {
        int[] due = {2, 2, 2, 2, 0, 4, 0, 4, 0, 4, 0, 4};
        for (int length = 1; length <= 12; length++) {
            Check.due("41: palindromes of " + length, hall.palindromes(thue, length), due[length - 1]);
            Check.due("41: of rabbits, of " + length, hall.palindromes(rabbits, length), 2 - (length + 1) % 2);
        }
        Check.due("41: of four letters, of 5", hall.palindromes(four, 5), distinctOfFour(5, true));
        dueLength("41: palindromes", 12, (h, sequence, length) -> h.palindromes(sequence, length));
    }

    /** The one b stands at the place 599, 21113 by base 4, or at 600, 21120, where it does not count. */
    private static void onlyBelow600() {
        Morphichall last = new Morphichall();
        int at599 = Halls.automaton(last, "a6616", "a6266", "a6366", "a6466", "a6665", "b6666", "a6666");
        int at600 = Halls.automaton(last, "a6616", "a6266", "a6366", "a6646", "a5666", "b6666", "a6666");
        Check.due("39: b at 599", last.letterAt(at599, 599), 'b');
        Check.due("39: b at 600", last.letterAt(at600, 600), 'b');
        for (int length : new int[] {1, 2, 11, 12}) {
            Check.due("39: with 599, of " + length, last.pieces(at599, length), 2);
            Check.due("39: without 600, of " + length, last.pieces(at600, length), 1);
            Check.due("41: with 599, of " + length, last.palindromes(at599, length), length == 1 ? 2 : 1);
            Check.due("41: without 600, of " + length, last.palindromes(at600, length), 1);
        }
        for (int length : new int[] {1, 2, 59, 60}) {
            Check.due("40: with 599, of " + length, last.piecesByCounts(at599, length), 2);
            Check.due("40: without 600, of " + length, last.piecesByCounts(at600, length), 1);
        }
        Halls.morphism(last, "ab", "b");
        int first = last.fixed(0);
        Check.due("39: a at the place 0 alone", last.pieces(first, 12), 2);
        Check.due("40: a at the place 0 alone", last.piecesByCounts(first, 60), 2);
        Check.due("41: a at the place 0 alone", last.palindromes(first, 12), 1);
    }

    private static void exponent() {
        Check.due("42: of 60 places", hall.exponent(thue, 60), 2.0f);
        Check.due("42: of one place", hall.exponent(thue, 1), 1.0f);
        Check.due("42: of two unlike places", hall.exponent(thue, 2), 1.0f);
        Check.due("42: abb", hall.exponent(thue, 3), 2.0f);
        Check.due("42: aba", hall.exponent(rabbits, 3), 1.5f);
        Check.due("42: of 100 places", hall.exponent(rabbits, 100), 45.0f / 13.0f);
        Check.due("42: of all alike", hall.exponent(one, 120), 120.0f);
        Check.due("42: a third", hall.exponent(four, 4), 1.0f);
        Check.due("42: within abcdb", hall.exponent(four, 5), 4.0f / 3.0f);
        for (int none : new int[] {0, -1, 121, Integer.MIN_VALUE, Integer.MAX_VALUE}) {
            Check.dueThrow("42: of " + none + " places", hall, ARGUMENT, h -> h.exponent(thue, none));
        }
        Check.dueThrow("42: no such sequence first", hall, INDEX, h -> h.exponent(4, 0));
        Check.dueThrowLeavesAll("42: of 0 places", Halls::fill, ARGUMENT, h -> h.exponent(0, 0));
    }

    private static void meanLetter() {
        Check.due("50: of 100 places", hall.meanLetter(thue, 100), 0.5);
        Check.due("50: of one place", hall.meanLetter(thue, 1), 0.0);
        Check.due("50: of three places", hall.meanLetter(thue, 3), 2.0 / 3.0);
        Check.due("50: by letters", hall.meanLetter(rabbits, 1000), 382.0 / 1000.0);
        Check.due("50: of four letters", hall.meanLetter(four, 4), 1.5);
        for (int none : new int[] {0, -1, 1001, Integer.MIN_VALUE, Integer.MAX_VALUE}) {
            Check.dueThrow("50: of " + none + " places", hall, ARGUMENT, h -> h.meanLetter(thue, none));
        }
        Check.dueThrow("50: no such sequence first", hall, INDEX, h -> h.meanLetter(-1, 0));
        Check.dueThrowLeavesAll("50: of 1001 places", Halls::fill, ARGUMENT, h -> h.meanLetter(0, 1001));
    }
}
