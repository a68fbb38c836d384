import java.util.function.Consumer;

/** Halls as the tests need them. */
final class Halls {
    private Halls() {
    }

    static void type(Morphichall hall, String word) {
        hall.wipe();
        for (char letter : word.toCharArray()) {
            hall.type(letter);
        }
    }

    /** Adds a morphism with these images. */
    static int morphism(Morphichall hall, String... images) {
        int number = hall.morphism(images.length);
        for (int i = 0; i < images.length; i++) {
            type(hall, images[i]);
            hall.setImage(number, (char) ('a' + i));
        }
        hall.wipe();
        return number;
    }

    /** Adds an automaton; a state is told by its letter and the states to which its arrows lead: "b01". */
    static int automaton(Morphichall hall, String... states) {
        int base = states[0].length() - 1;
        int number = hall.automaton(base, states.length);
        for (int state = 0; state < states.length; state++) {
            hall.give(number, state, states[state].charAt(0));
            for (int digit = 0; digit < base; digit++) {
                hall.arrow(number, state, digit, states[state].charAt(1 + digit) - '0');
            }
        }
        return number;
    }

    static String text(Morphichall hall, int sequence, int from, int places) {
        StringBuilder out = new StringBuilder();
        for (int i = 0; i < places; i++) {
            out.append(hall.letterAt(sequence, from + i));
        }
        return out.toString();
    }

    /** All 1024 letters of a sequence by letters, read from halls of some hundred calls each. */
    static String wholeText(Consumer<Morphichall> made, int sequence) {
        StringBuilder out = new StringBuilder();
        for (int from = 0; from < 1024; from += 256) {
            out.append(text(Check.prepared(made), sequence, from, 256));
        }
        return out.toString();
    }

    /** An automaton of base 2 that counts ones, round and round; the last state alone has the letter b. */
    static String[] ring(int states) {
        String[] out = new String[states];
        for (int state = 0; state < states; state++) {
            out[state] = (state == states - 1 ? "b" : "a") + state + (state + 1) % states;
        }
        return out;
    }

    /** An automaton of base 4 that has the letter b at one place and a at all others. */
    static String[] onlyAt(int place) {
        String digits = Integer.toString(place, 4);
        int none = digits.length() + 1;
        String[] out = new String[none + 1];
        for (int state = 0; state <= none; state++) {
            StringBuilder arrows = new StringBuilder(String.valueOf(none).repeat(4));
            if (state < digits.length()) {
                arrows.setCharAt(digits.charAt(state) - '0', (char) ('1' + state));
            }
            out[state] = (state == digits.length() ? "b" : "a") + arrows;
        }
        return out;
    }

    /** Something of all that a hall can have. */
    static void fill(Morphichall hall) {
        fillWithoutRow(hall);
        hall.slopeNumber(2);
        hall.slopeNumber(3);
    }

    private static void fillWithoutRow(Morphichall hall) {
        morphism(hall, "ab", "ba");
        morphism(hall, "ab", "c", "aab");
        hall.fixed(1);
        automaton(hall, "a01", "b10", "c22");
        automaton(hall, "a012", "b120", "d201");
        hall.equal(0, 1);
        hall.same(1, 0, 2);
        hall.less(3, 4);
        hall.regular(2);
        hall.entry(0, 'l', 0, 0, 2);
        hall.entry(0, '1', 0, 1, -3);
        hall.entry(0, 'r', 1, 0, 4);
        hall.command('a', 'f');
        hall.command('b', 'l');
        type(hall, "abab");
    }

    /** All that a hall can have, to the last one, but for the stack's two last ones. */
    static void fillUp(Morphichall hall) {
        morphism(hall, "ab", "ba");
        for (int i = 1; i < 6; i++) {
            hall.morphism(2 + i % 3);
        }
        automaton(hall, "a01", "b10");
        hall.fixed(0);
        for (int i = 2; i < 8; i++) {
            hall.automaton(2 + i % 3, i);
        }
        for (int i = 0; i < 8; i++) {
            hall.slopeNumber(1 + i);
        }
        for (int i = 0; i < 4; i++) {
            hall.regular(3 - i % 3);
        }
        for (int i = 0; i < 40; i++) {
            hall.type("abc".charAt(i % 3));
        }
        for (int i = 0; i < 6; i++) {
            hall.less(i % 5, (i + 1) % 5);
        }
    }

    /** A formula of 200 states: ones counted by 8 and, for two other variables, by 5. */
    static void fillRing(Morphichall hall) {
        int eight = automaton(hall, ring(8));
        int five = automaton(hall, ring(5));
        hall.letterIs(five, 0, 'b');
        hall.letterIs(five, 1, 'b');
        hall.join(true);
        hall.letterIs(eight, 2, 'b');
        hall.join(true);
    }

    /** Something of all, and a word of so many letters. */
    static Consumer<Morphichall> withWord(int letters) {
        return with(hall -> type(hall, "abcd".repeat(10).substring(0, letters)));
    }

    /** Something of all, and more morphisms of 2, 3, and 4 letters, up to so many, two at least. */
    static Consumer<Morphichall> withMorphisms(int count) {
        return with(hall -> {
            for (int i = 2; i < count; i++) {
                hall.morphism(2 + (i - 2) % 3);
            }
        });
    }

    /** Something of all, and a row for slopes of so many numbers, so small that the last one still counts. */
    static Consumer<Morphichall> withRow(int numbers) {
        return hall -> {
            fillWithoutRow(hall);
            for (int i = 0; i < numbers; i++) {
                hall.slopeNumber(1 + i % 2);
            }
        };
    }

    /** Something of all, and more automata, up to so many sequences, three at least. */
    static Consumer<Morphichall> withSequences(int count) {
        return with(hall -> fillSequences(hall, count));
    }

    static void fillSequences(Morphichall hall, int count) {
        for (int i = hall.sequences(); i < count; i++) {
            hall.automaton(2 + i % 3, 1 + i % 4);
        }
    }

    /** Something of all, and so many formulas. */
    static Consumer<Morphichall> withFormulas(int count) {
        return with(hall -> fillFormulas(hall, count));
    }

    /** The stack gets so many formulas, whatever was on it. */
    static void fillFormulas(Morphichall hall, int count) {
        while (!Call.answer(hall, "drop").startsWith("throws.")) {
            continue;
        }
        for (int i = 0; i < count; i++) {
            hall.less(i % 5, (i + 1) % 5);
        }
    }

    /** Something of all, and more sequences of numbers, up to so many, one at least. */
    static Consumer<Morphichall> withRegulars(int count) {
        return with(hall -> {
            for (int i = 1; i < count; i++) {
                hall.regular(3 - i % 3);
            }
        });
    }

    private static Consumer<Morphichall> with(Consumer<Morphichall> more) {
        return hall -> {
            fill(hall);
            more.accept(hall);
        };
    }
}
