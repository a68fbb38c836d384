/** Halls as the tests need them. */
final class Halls {
    private Halls() {
    }

    static void type(Morphichall hall, String word) {
        hall.wipe();
        for (char letter : word.toCharArray()) {
            hall.type(letter);
        }
    }

    /** Adds a morphism with these images. */
    static int morphism(Morphichall hall, String... images) {
        int number = hall.morphism(images.length);
        for (int i = 0; i < images.length; i++) {
            type(hall, images[i]);
            hall.setImage(number, (char) ('a' + i));
        }
        hall.wipe();
        return number;
    }

    /** Adds an automaton; a state is told by its letter and the states to which its arrows lead: "b01". */
    static int automaton(Morphichall hall, String... states) {
        int base = states[0].length() - 1;
        int number = hall.automaton(base, states.length);
        for (int state = 0; state < states.length; state++) {
            hall.give(number, state, states[state].charAt(0));
            for (int digit = 0; digit < base; digit++) {
                hall.arrow(number, state, digit, states[state].charAt(1 + digit) - '0');
            }
        }
        return number;
    }

    static String text(Morphichall hall, int sequence, int from, int places) {
        StringBuilder out = new StringBuilder();
        for (int i = 0; i < places; i++) {
            out.append(hall.letterAt(sequence, from + i));
        }
        return out.toString();
    }

    /** Something of all that a hall can have. */
    static void fill(Morphichall hall) {
        morphism(hall, "ab", "ba");
        morphism(hall, "ab", "c", "aab");
        hall.fixed(1);
        automaton(hall, "a01", "b10", "c22");
        automaton(hall, "a012", "b120", "d201");
        hall.slopeNumber(2);
        hall.slopeNumber(3);
        hall.equal(0, 1);
        hall.same(1, 0, 2);
        hall.less(3, 4);
        hall.regular(2);
        hall.entry(0, 'l', 0, 0, 2);
        hall.entry(0, '1', 0, 1, -3);
        hall.entry(0, 'r', 1, 0, 4);
        hall.command('a', 'f');
        hall.command('b', 'l');
        type(hall, "abab");
    }

    /** All that a hall can have, to the last one, but for the stack's two last ones. */
    static void fillUp(Morphichall hall) {
        morphism(hall, "ab", "ba");
        for (int i = 1; i < 6; i++) {
            hall.morphism(2 + i % 3);
        }
        automaton(hall, "a01", "b10");
        hall.fixed(0);
        for (int i = 2; i < 8; i++) {
            hall.automaton(2 + i % 3, i);
        }
        for (int i = 0; i < 8; i++) {
            hall.slopeNumber(1 + i);
        }
        for (int i = 0; i < 4; i++) {
            hall.regular(1 + i % 3);
        }
        for (int i = 0; i < 40; i++) {
            hall.type("abc".charAt(i % 3));
        }
        for (int i = 0; i < 6; i++) {
            hall.less(i % 5, (i + 1) % 5);
        }
    }

    /** A formula of 200 states: ones counted by 8 and, for two other variables, by 5. */
    static void fillRing(Morphichall hall) {
        int eight = automaton(hall, "a01", "a12", "a23", "a34", "a45", "a56", "a67", "b70");
        int five = automaton(hall, "a01", "a12", "a23", "a34", "b40");
        hall.letterIs(five, 0, 'b');
        hall.letterIs(five, 1, 'b');
        hall.join(true);
        hall.letterIs(eight, 2, 'b');
        hall.join(true);
    }
}
