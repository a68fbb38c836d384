import java.util.ArrayList;
import java.util.Arrays;
import java.util.HashSet;
import java.util.List;
import java.util.Set;
import java.util.function.Consumer;

/** Promises 39 to 42 and 50, and what the terms say of counts, at their bounds. */
final class CountBounds extends Bounds {
    private static final int PLACES = 600;
    private static final List<Consumer<Morphichall>> HALLS = new ArrayList<>();

    private CountBounds() {
    }

    static void check() {
        refusals();
        makeHalls();
        for (Consumer<Morphichall> made : HALLS) {
            String text = firstPlaces(made);
            duePieces(made, text);
            dueByCounts(made, text);
            dueExponents(made, text);
            dueMeans(made, text);
        }
        lastPlaces();
        shortest();
        oneAfterAnother();
    }

    private static void refusals() {
        Object[][] methods = {{39, "pieces", "length", 1, 12}, {40, "piecesByCounts", "length", 1, 60},
            {41, "palindromes", "length", 1, 12}, {42, "exponent", "places", 1, 120},
            {50, "meanLetter", "places", 1, 1000}};
        for (Object[] told : methods) {
            String name = (String) told[1];
            new Refusals((int) told[0], name).hall("3 sequences", SOME).argument("sequence", 0, 1, 2)
                    .wrong(INDEX, -1, 3, Integer.MIN_VALUE, Integer.MAX_VALUE)
                    .range((String) told[2], (int) told[3], (int) told[4], ARGUMENT).check();
            promise((int) told[0], "- `sequence`: the sequence");
            due(INDEX, NEW, name, 0, 1);
            due(INDEX, Halls.withSequences(8), name, 8, 1);
            due(name.equals("exponent") ? "1.0" : name.equals("meanLetter") ? "0.0" : "1", Halls.withSequences(8),
                    name, 7, 1);
        }
    }

    private static void makeHalls() {
        HALLS.add(then(NEW, "automaton", 2, 1));
        HALLS.add(hall -> Halls.automaton(hall, "d00"));
        HALLS.add(hall -> Halls.automaton(hall, "a01", "b10"));
        HALLS.add(hall -> hall.fixed(Halls.morphism(hall, "ab", "a")));
        HALLS.add(hall -> hall.fixed(Halls.morphism(hall, "abc", "ac", "b")));
        HALLS.add(hall -> hall.fixed(Halls.morphism(hall, "ab", "b")));
        HALLS.add(then(then(then(NEW, "slopeNumber", 9), "slopeNumber", 1), "slope"));
        HALLS.add(hall -> Halls.automaton(hall, "a0123", "b1230", "c2301", "d3012"));
        HALLS.add(hall -> Halls.automaton(hall, "a12", "b34", "c50", "d61", "b72", "a03", "d14", "c25"));
        HALLS.add(hall -> Halls.automaton(hall, "b11", "a22", "a33", "a44", "a55", "a66", "a77", "a00"));
        HALLS.add(CountBounds::longRuns);
        for (int place : new int[] {1, 11, 12, 59, 60, 118, 119, 120, 539, 540, 587, 588, 598, 599, 600, 601}) {
            HALLS.add(hall -> Halls.automaton(hall, Halls.onlyAt(place)));
        }
    }

    /** The letter is told by how many digits of base 2 the place has: 64 times a, 128 times b, 256 times c, d. */
    private static void longRuns(Morphichall hall) {
        Halls.automaton(hall, "b11", "c22", "d33", "d44", "d55", "d66", "d77", "a00");
    }

    private static String firstPlaces(Consumer<Morphichall> made) {
        return Halls.text(Check.prepared(made), 0, 0, 400) + Halls.text(Check.prepared(made), 0, 400, 400)
                + Halls.text(Check.prepared(made), 0, 800, 200);
    }

    private static void duePieces(Consumer<Morphichall> made, String text) {
        Morphichall hall = Check.prepared(made);
        for (int length = 1; length <= 12; length++) {
            Set<String> pieces = new HashSet<>();
            Set<String> palindromes = new HashSet<>();
            for (int from = 0; from + length <= PLACES; from++) {
                String piece = text.substring(from, from + length);
                pieces.add(piece);
                if (new StringBuilder(piece).reverse().toString().equals(piece)) {
                    palindromes.add(piece);
                }
            }
            promise(39, "Returns how many unlike pieces of a length a sequence has.");
            next(pieces.size(), hall, "pieces", 0, length);
            promise(41, "Returns how many unlike palindromes of a length a sequence has.");
            next(palindromes.size(), hall, "palindromes", 0, length);
            terms("A piece is a palindrome if it is the same from behind.");
            next(palindromes.size(), hall, "palindromes", 0, length);
        }
    }

    private static void dueByCounts(Consumer<Morphichall> made, String text) {
        Morphichall hall = Check.prepared(made);
        for (int length = 1; length <= 60; length++) {
            Set<String> counts = new HashSet<>();
            for (int from = 0; from + length <= PLACES; from++) {
                char[] letters = text.substring(from, from + length).toCharArray();
                Arrays.sort(letters);
                counts.add(new String(letters));
            }
            promise(40, "Returns how many pieces of a length a sequence has that are unlike by counts.");
            next(counts.size(), hall, "piecesByCounts", 0, length);
            terms("Two pieces are alike by counts if they have as many of each letter.");
            next(counts.size(), hall, "piecesByCounts", 0, length);
        }
    }

    private static void dueExponents(Consumer<Morphichall> made, String text) {
        Morphichall hall = Check.prepared(made);
        for (int places : new int[] {1, 2, 3, 4, 5, 12, 13, 59, 60, 61, 118, 119, 120}) {
            int bestLength = 1;
            int bestPeriod = 1;
            for (int from = 0; from < places; from++) {
                for (int to = from + 1; to <= places; to++) {
                    int period = leastPeriod(text.substring(from, to));
                    if ((to - from) * bestPeriod > bestLength * period) {
                        bestLength = to - from;
                        bestPeriod = period;
                    }
                }
            }
            promise(42, "Returns the greatest exponent of a piece of the first places of a sequence.");
            next((float) bestLength / (float) bestPeriod, hall, "exponent", 0, places);
            terms("The exponent of a piece is its length by its least period, a period being a number of places");
            next((float) bestLength / (float) bestPeriod, hall, "exponent", 0, places);
        }
    }

    private static int leastPeriod(String piece) {
        for (int period = 1; period < piece.length(); period++) {
            if (piece.startsWith(piece.substring(period))) {
                return period;
            }
        }
        return piece.length();
    }

    private static void dueMeans(Consumer<Morphichall> made, String text) {
        Morphichall hall = Check.prepared(made);
        for (int places : new int[] {1, 2, 3, 7, 599, 600, 601, 998, 999, 1000}) {
            int sum = text.substring(0, places).chars().map(letter -> letter - 'a').sum();
            promise(50, "Returns the mean of the letters at the first places of a sequence, as numbers from 0.");
            next((double) sum / (double) places, hall, "meanLetter", 0, places);
        }
    }

    private static void lastPlaces() {
        terms("A piece of a sequence is what stands at some neighbouring places, all below 600 here.");
        for (int place : new int[] {599, 600}) {
            Consumer<Morphichall> made = hall -> Halls.automaton(hall, Halls.onlyAt(place));
            int due = place == 599 ? 2 : 1;
            for (int length : new int[] {1, 2, 11, 12}) {
                due(due, made, "pieces", 0, length);
                due(due, made, "piecesByCounts", 0, length);
                due(length == 1 ? due : 1, made, "palindromes", 0, length);
            }
            due(due, made, "piecesByCounts", 0, 59);
            due(due, made, "piecesByCounts", 0, 60);
        }
        for (int place : new int[] {118, 119, 120}) {
            promise(42, "- `places`: how many places, 1 to 120");
            due(Math.min(place, 120) + ".0", hall -> Halls.automaton(hall, Halls.onlyAt(place)), "exponent", 0, 120);
            due(Math.min(place, 119) + ".0", hall -> Halls.automaton(hall, Halls.onlyAt(place)), "exponent", 0, 119);
        }
        for (int place : new int[] {998, 999, 1000}) {
            promise(50, "- `places`: how many places, 1 to 1000");
            due(place < 1000 ? 1.0 / 1000.0 : 0.0, hall -> Halls.automaton(hall, Halls.onlyAt(place)), "meanLetter",
                    0, 1000);
            due(place < 999 ? 1.0 / 999.0 : 0.0, hall -> Halls.automaton(hall, Halls.onlyAt(place)), "meanLetter",
                    0, 999);
        }
    }

    /** What was written for a sequence makes no difference for another one, as far as it may have been written. */
    private static void oneAfterAnother() {
        Consumer<Morphichall> three = hall -> {
            hall.fixed(Halls.morphism(hall, "ab", "b"));
            Halls.automaton(hall, "b01", "a10");
            Halls.automaton(hall, "d0000");
        };
        Consumer<Morphichall> written = then(three, "kernel", 2, 4);
        Object[][] greatest = {{39, "pieces", 12}, {40, "piecesByCounts", 60}, {41, "palindromes", 12},
            {42, "exponent", 120}, {50, "meanLetter", 1000}};
        for (Object[] asked : greatest) {
            String name = (String) asked[1];
            promise((int) asked[0], "Returns");
            for (int sequence = 0; sequence < 3; sequence++) {
                for (int number = 1; number <= (int) asked[2]; number += number < 12 ? 1 : 12) {
                    due(Call.answer(Check.prepared(three), name, sequence, number), written, name, sequence, number);
                }
                due(Call.answer(Check.prepared(three), name, sequence, asked[2]), written, name, sequence, asked[2]);
            }
        }
        promise(50, "Returns their sum divided by how many, both converted to double.");
        due(999.0 / 1000.0, written, "meanLetter", 0, 1000);
        due(998.0 / 999.0, written, "meanLetter", 0, 999);
    }

    private static void shortest() {
        Consumer<Morphichall> two = hall -> Halls.automaton(hall, "a01", "b10");
        promise(39, "Returns how many.");
        due(2, two, "pieces", 0, 1);
        due(36, two, "pieces", 0, 12);
        promise(40, "Returns how many.");
        due(2, two, "piecesByCounts", 0, 1);
        due(3, two, "piecesByCounts", 0, 60);
        promise(41, "Returns how many.");
        due(2, two, "palindromes", 0, 1);
        due(4, two, "palindromes", 0, 12);
        due(0, two, "palindromes", 0, 11);
        promise(42, "Returns the length divided by the period, both converted to float.");
        due("1.0", two, "exponent", 0, 1);
        due("1.0", two, "exponent", 0, 2);
        due("2.0", two, "exponent", 0, 3);
        due("120.0", then(NEW, "automaton", 2, 1), "exponent", 0, 120);
        due(4.0f / 3.0f, hall -> Halls.automaton(hall, "a0123", "b1230", "c2301", "d3012"), "exponent", 0, 5);
        promise(50, "Returns their sum divided by how many, both converted to double.");
        due("0.0", two, "meanLetter", 0, 1);
        due(2.0 / 3.0, two, "meanLetter", 0, 3);
        due("3.0", hall -> Halls.automaton(hall, "d00"), "meanLetter", 0, 1000);
    }
}
