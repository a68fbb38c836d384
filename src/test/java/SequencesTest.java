/** Promises 9 to 19, and 51: sequences and their automata. */
final class SequencesTest {
    private static final Class<IllegalArgumentException> ARGUMENT = IllegalArgumentException.class;
    private static final Class<IllegalStateException> STATE = IllegalStateException.class;
    private static final Class<IndexOutOfBoundsException> INDEX = IndexOutOfBoundsException.class;
    private static final Class<UnsupportedOperationException> UNSUPPORTED = UnsupportedOperationException.class;

    public static void main(String[] args) {
        fixed();
        slopeNumber();
        slope();
        automaton();
        automatonOf();
        arrow();
        give();
        sequences();
        letterAt();
        least();
        kernel();
        checksum();
        Check.end("SequencesTest");
    }

    private static void fixed() {
        Morphichall hall = new Morphichall();
        int rabbits = Halls.morphism(hall, "ab", "a");
        Check.due("9: fixed", hall.fixed(rabbits), 0);
        Check.due("9: its text", Halls.text(hall, 0, 0, 21), "abaababaabaababaababa");
        Halls.type(hall, "aab");
        hall.setImage(rabbits, 'a');
        Check.due("9: as the morphism was", Halls.text(hall, 0, 0, 8), "abaababa");
        Check.due("9: as it is now", Halls.text(hall, hall.fixed(rabbits), 0, 10), "aabaabaaab");
        int slow = Halls.morphism(hall, "ab", "b");
        Check.due("9: a word that grows by one letter", Halls.text(hall, hall.fixed(slow), 1000, 24), "b".repeat(24));
        int long6 = Halls.morphism(hall, "abcdba", "b", "cc", "aaaaaa");
        Check.due("9: all letters", Halls.text(hall, hall.fixed(long6), 0, 20), "abcdbabccaaaaaababcd");
        int swapped = Halls.morphism(hall, "ba", "ab");
        Check.dueThrow("9: it begins with b", hall, UNSUPPORTED, h -> h.fixed(swapped));
        int still = Halls.morphism(hall, "a", "ab");
        Check.dueThrow("9: a alone", hall, UNSUPPORTED, h -> h.fixed(still));
        Check.dueThrowLeavesAll("9: fixed(-1)", Halls::fill, INDEX, h -> h.fixed(-1));
        Check.dueThrowLeavesAll("9: fixed(2)", Halls::fill, INDEX, h -> h.fixed(2));
        Check.dueThrowLeavesAll("9: fixed(6) with 8", Halls::fillUp, INDEX, h -> h.fixed(6));
        Check.dueThrowLeavesAll("9: fixed(1) with 8", Halls::fillUp, UNSUPPORTED, h -> h.fixed(1));
        Check.dueThrowLeavesAll("9: fixed(0) with 8", Halls::fillUp, STATE, h -> h.fixed(0));
    }

    private static void slopeNumber() {
        Morphichall hall = new Morphichall();
        for (int i = 1; i <= 8; i++) {
            Check.due("10: the number " + i, hall.slopeNumber(i == 8 ? 9 : i), i);
        }
        Check.dueThrow("10: a ninth", hall, STATE, h -> h.slopeNumber(1));
        Check.dueThrow("10: a ninth, no number", hall, ARGUMENT, h -> h.slopeNumber(0));
        for (int none : new int[] {0, 10, -1, Integer.MIN_VALUE, Integer.MAX_VALUE}) {
            Check.dueThrowLeavesAll("10: slopeNumber(" + none + ")", Halls::fill, ARGUMENT,
                    h -> h.slopeNumber(none));
        }
        Check.dueThrowLeavesAll("10: slopeNumber(9) with 8", Halls::fillUp, STATE, h -> h.slopeNumber(9));
    }

    private static void slope() {
        Morphichall hall = new Morphichall();
        hall.slopeNumber(1);
        Check.due("11: slope()", hall.slope(), 0);
        Check.due("11: by ones", Halls.text(hall, 0, 0, 21), "abaababaabaababaababa");
        Check.due("11: the row is empty then", hall.slopeNumber(2), 1);
        hall.slopeNumber(3);
        Check.due("11: another", hall.slope(), 1);
        String second = "aabaabaaba";
        String third = second + second + "aab";
        Check.due("11: by 2, 3, and 2 again", Halls.text(hall, 1, 0, 23), third);
        Check.due("11: by 3 after it", Halls.text(hall, 1, 0, 79), third + third + third + second);
        for (int i = 0; i < 8; i++) {
            hall.slopeNumber(9);
        }
        hall.slope();
        String nines = ("a".repeat(9) + "b").repeat(9) + "a";
        Check.due("11: by nines", Halls.text(hall, 2, 0, 91), nines);
        Check.due("11: its end", Halls.text(hall, 2, 819, 205),
                "aaaaaaaaab" + nines + nines + "aaaaaaaaabaaa");
        Check.dueThrow("11: an empty row", hall, UNSUPPORTED, Morphichall::slope);
        Check.dueThrowLeavesAll("11: slope() with 8", Halls::fillUp, STATE, Morphichall::slope);
        Check.dueThrowLeavesAll("11: an empty row with 8", h -> {
            for (int i = 0; i < 8; i++) {
                h.automaton(2, 1);
            }
        }, UNSUPPORTED, Morphichall::slope);
    }

    private static void automaton() {
        Morphichall hall = new Morphichall();
        for (int i = 0; i < 8; i++) {
            Check.due("12: the one " + i, hall.automaton(2 + i % 3, 1 + i), i);
        }
        Check.due("12: a at first", hall.letterAt(7, 123456), 'a');
        Check.due("12: to itself at first", hall.arrow(7, 5, 2, 5), 5);
        Check.dueThrow("12: a ninth", hall, STATE, h -> h.automaton(2, 1));
        Check.dueThrow("12: a ninth of 0 states", hall, ARGUMENT, h -> h.automaton(2, 0));
        int[][] none = {{1, 1}, {5, 1}, {2, 0}, {2, 9}, {-1, 1}, {Integer.MAX_VALUE, 1}, {2, Integer.MIN_VALUE}};
        for (int[] pair : none) {
            Check.dueThrowLeavesAll("12: automaton(" + pair[0] + ", " + pair[1] + ")", Halls::fill, ARGUMENT,
                    h -> h.automaton(pair[0], pair[1]));
        }
        Check.dueThrowLeavesAll("12: automaton(4, 8) with 8", Halls::fillUp, STATE, h -> h.automaton(4, 8));
    }

    private static void automatonOf() {
        Morphichall hall = new Morphichall();
        int two = Halls.morphism(hall, "ab", "ba");
        Check.due("13: automatonOf", hall.automatonOf(two), 0);
        Check.due("13: Thue and Morse", Halls.text(hall, 0, 0, 16), "abbabaabbaababba");
        int four = Halls.morphism(hall, "abcd", "bbbb", "cdab", "dcba");
        Check.due("13: of base 4", hall.automatonOf(four), 1);
        Check.due("13: of base 4, its text", Halls.text(hall, 1, 0, 16), "abcdbbbbcdabdcba");
        Check.due("13: the digit 3", hall.arrow(1, 3, 3, 0), 0);
        int three = Halls.morphism(hall, "bcc", "aaa", "cab");
        Check.due("13: it need not be prolonged", Halls.text(hall, hall.automatonOf(three), 0, 9), "acccabcab");
        Halls.type(hall, "aa");
        hall.setImage(two, 'a');
        Check.due("13: as the morphism was", Halls.text(hall, 0, 0, 16), "abbabaabbaababba");
        Check.dueThrow("13: images of 1", hall, UNSUPPORTED, h -> h.automatonOf(h.morphism(2)));
        int five = Halls.morphism(hall, "aaaaa", "bbbbb");
        Check.dueThrow("13: images of 5", hall, UNSUPPORTED, h -> h.automatonOf(five));
        int unlike = Halls.morphism(hall, "aa", "bbb");
        Check.dueThrow("13: not uniform", hall, UNSUPPORTED, h -> h.automatonOf(unlike));
        Check.dueThrowLeavesAll("13: automatonOf(2)", Halls::fill, INDEX, h -> h.automatonOf(2));
        Check.dueThrowLeavesAll("13: automatonOf(-1) with 8", Halls::fillUp, INDEX, h -> h.automatonOf(-1));
        Check.dueThrowLeavesAll("13: automatonOf(1) with 8", Halls::fillUp, UNSUPPORTED, h -> h.automatonOf(1));
        Check.dueThrowLeavesAll("13: automatonOf(0) with 8", Halls::fillUp, STATE, h -> h.automatonOf(0));
    }

    private static void arrow() {
        Morphichall hall = new Morphichall();
        hall.automaton(3, 8);
        Check.due("14: at first to itself", hall.arrow(0, 7, 2, 0), 7);
        Check.due("14: then as told", hall.arrow(0, 7, 2, 7), 0);
        hall.arrow(0, 0, 2, 7);
        hall.give(0, 7, 'd');
        Check.due("14: it leads", hall.letterAt(0, 2), 'd');
        Check.due("14: the other digits stay", hall.letterAt(0, 1), 'a');
        int[][] none = {{-1, 0, 0}, {8, 0, 0}, {0, -1, 0}, {0, 3, 0}, {0, 0, -1}, {0, 0, 8}};
        for (int[] told : none) {
            Check.dueThrow("14: state, digit, to " + told[0] + " " + told[1] + " " + told[2], hall, ARGUMENT,
                    h -> h.arrow(0, told[0], told[1], told[2]));
        }
        Check.dueThrowLeavesAll("14: arrow(1, 0, 2, 0)", Halls::fill, ARGUMENT, h -> h.arrow(1, 0, 2, 0));
        Check.dueThrowLeavesAll("14: arrow(1, 0, 0, 3)", Halls::fill, ARGUMENT, h -> h.arrow(1, 0, 0, 3));
        Check.dueThrowLeavesAll("14: one by letters", Halls::fill, UNSUPPORTED, h -> h.arrow(0, -1, 9, 9));
        Check.dueThrowLeavesAll("14: no such sequence", Halls::fill, INDEX, h -> h.arrow(3, -1, 9, 9));
        Check.dueThrowLeavesAll("14: a sequence below 0", Halls::fill, INDEX, h -> h.arrow(-1, 0, 0, 0));
    }

    private static void give() {
        Morphichall hall = new Morphichall();
        hall.automaton(2, 2);
        Check.due("15: a at first", hall.give(0, 1, 'd'), 'a');
        Check.due("15: then as told", hall.give(0, 1, 'b'), 'd');
        hall.give(0, 0, 'c');
        Check.due("15: its letter", hall.letterAt(0, 0), 'c');
        Check.dueThrow("15: no such state", hall, ARGUMENT, h -> h.give(0, 2, 'a'));
        Check.dueThrow("15: a state below 0", hall, ARGUMENT, h -> h.give(0, -1, 'a'));
        Check.dueThrowLeavesAll("15: no letter", Halls::fill, ARGUMENT, h -> h.give(1, 0, 'e'));
        Check.dueThrowLeavesAll("15: one by letters", Halls::fill, UNSUPPORTED, h -> h.give(0, -1, 'e'));
        Check.dueThrowLeavesAll("15: no such sequence", Halls::fill, INDEX, h -> h.give(3, -1, 'e'));
    }

    private static void sequences() {
        Morphichall hall = new Morphichall();
        Check.due("16: none", hall.sequences(), 0);
        Halls.morphism(hall, "ab", "ba");
        hall.fixed(0);
        hall.automatonOf(0);
        hall.automaton(4, 1);
        hall.slopeNumber(1);
        hall.slope();
        Check.due("16: four", hall.sequences(), 4);
        Check.due("16: eight", Check.prepared(Halls::fillUp).sequences(), 8);
    }

    private static void letterAt() {
        Morphichall hall = new Morphichall();
        Halls.morphism(hall, "ab", "ba");
        hall.fixed(0);
        hall.automatonOf(0);
        for (int place : new int[] {0, 1, 2, 3, 500, 777, 1023}) {
            char due = Integer.bitCount(place) % 2 == 0 ? 'a' : 'b';
            Check.due("17: by letters at " + place, hall.letterAt(0, place), due);
            Check.due("17: by an automaton at " + place, hall.letterAt(1, place), due);
        }
        for (int place : new int[] {1024, 1999999999, 2000000000}) {
            Check.due("17: at " + place, hall.letterAt(1, place), Integer.bitCount(place) % 2 == 0 ? 'a' : 'b');
        }
        int noughts = Halls.automaton(hall, "a10", "b11");
        Check.due("17: no noughts ahead", Halls.text(hall, noughts, 0, 8), "aababbba");
        Check.dueThrow("17: by letters at 1024", hall, ARGUMENT, h -> h.letterAt(0, 1024));
        Check.dueThrow("17: at 2000000001", hall, ARGUMENT, h -> h.letterAt(1, 2000000001));
        Check.dueThrow("17: at the greatest int", hall, ARGUMENT, h -> h.letterAt(1, Integer.MAX_VALUE));
        Check.dueThrow("17: no such sequence first", hall, INDEX, h -> h.letterAt(3, -1));
        Check.dueThrowLeavesAll("17: letterAt(1, -1)", Halls::fill, ARGUMENT, h -> h.letterAt(1, -1));
        Check.dueThrowLeavesAll("17: letterAt(-1, 0)", Halls::fill, INDEX, h -> h.letterAt(-1, 0));
    }

    private static void least() {
        Morphichall hall = new Morphichall();
        Check.due("18: one letter", hall.least(hall.automaton(4, 8)), 1);
        Check.due("18: told apart by the digit 1 alone",
                hall.least(Halls.automaton(hall, "a01", "b23", "a20", "b01")), 4);
        Check.due("18: two and two alike", hall.least(Halls.automaton(hall, "a01", "b32", "a23", "b10")), 2);
        Check.due("18: states that are not met", hall.least(Halls.automaton(hall, "a00", "b12", "c01")), 1);
        Check.due("18: met by a nought ahead alone", hall.least(Halls.automaton(hall, "a10", "b11")), 2);
        Check.due("18: all eight",
                hall.least(Halls.automaton(hall, "a12", "a23", "a34", "a45", "a56", "a67", "a77", "b00")), 8);
        Check.due("18: of base 3", hall.least(Halls.automaton(hall, "a012", "b120", "c201", "a012")), 3);
        Check.dueThrowLeavesAll("18: one by letters", Halls::fill, UNSUPPORTED, h -> h.least(0));
        Check.dueThrowLeavesAll("18: no such sequence", Halls::fill, INDEX, h -> h.least(3));
    }

    private static void kernel() {
        Morphichall hall = new Morphichall();
        Halls.morphism(hall, "ab", "ba");
        hall.automatonOf(0);
        Check.due("19: depth 0", hall.kernel(0, 0), 1);
        Check.due("19: depth 1", hall.kernel(0, 1), 2);
        Check.due("19: depth 4", hall.kernel(0, 4), 2);
        int four = Halls.automaton(hall, "a0123", "b1230", "c2301", "d3012");
        Check.due("19: of base 4, depth 4", hall.kernel(four, 4), 4);
        int last = Halls.automaton(hall, "a11", "a22", "a33", "a44", "a55", "a66", "b77", "a77");
        Check.due("19: by 32 letters alone, depth 0", hall.kernel(last, 0), 1);
        Check.due("19: by 32 letters alone, depth 4", hall.kernel(last, 4), 5);
        Check.dueThrow("19: depth 5", hall, ARGUMENT, h -> h.kernel(0, 5));
        Check.dueThrow("19: no such sequence first", hall, INDEX, h -> h.kernel(9, 5));
        Check.dueThrowLeavesAll("19: depth -1", Halls::fill, ARGUMENT, h -> h.kernel(1, -1));
        Check.dueThrowLeavesAll("19: one by letters first", Halls::fill, UNSUPPORTED, h -> h.kernel(0, 5));
    }

    private static void checksum() {
        Morphichall hall = new Morphichall();
        Halls.automaton(hall, "a01", "b10");
        hall.slopeNumber(1);
        hall.slope();
        long due = 7;
        for (String text : new String[] {"abbabaabbaababbabaababbaabbabaab", "abaababaabaababaababaabaababaaba"}) {
            for (char letter : text.toCharArray()) {
                due = 31 * due + (letter - 'a');
            }
        }
        Check.due("51: of two", hall.checksum(), due);
        hall.give(0, 1, 'd');
        Check.due("51: it changes with a letter", hall.checksum() == due, false);
        Check.due("51: of none", new Morphichall().checksum(), 7);
    }
}
