import java.math.BigInteger;
import java.util.Arrays;
import java.util.function.Consumer;

/** Promises 9 to 19 and 51, and what the terms say of sequences, at their bounds. */
final class SequenceBounds extends Bounds {
    private static final String LETTERS = "abcd";
    /** The letter b stands at the one place that is named, among the first hundred at least. */
    private static final String[] B_AT_31 = {"a61", "a62", "a63", "a64", "a65", "b66", "a66"};
    private static final String[] B_AT_32 = {"a71", "a27", "a37", "a47", "a57", "a67", "b77", "a77"};
    private static final String[] B_AT_62 = {"a71", "a72", "a73", "a74", "a75", "a67", "b77", "a77"};
    private static final String[] B_AT_63 = {"a71", "a72", "a73", "a74", "a75", "a76", "b77", "a77"};
    private static final String[] B_AT_64 = {"a01", "a20", "a30", "a40", "a50", "a60", "a70", "b00"};

    private SequenceBounds() {
    }

    static void check() {
        fixed();
        growth();
        slopeNumber();
        slope();
        slopeTexts();
        automaton();
        automatonOf();
        arrow();
        give();
        sequences();
        letterAt();
        longestPlaces();
        least();
        kernel();
        kernelLetters();
        checksum();
    }

    private static void dueText(String want, Consumer<Morphichall> made, int sequence) {
        is("letters from the place 0 on", Halls.text(Check.prepared(made), sequence, 0, want.length()), want);
    }

    private static Consumer<Morphichall> automatonOnly(String... states) {
        return hall -> Halls.automaton(hall, states);
    }

    private static Consumer<Morphichall> fixedOnly(String... images) {
        return hall -> hall.fixed(Halls.morphism(hall, images));
    }

    private static Consumer<Morphichall> slopeOnly(int... numbers) {
        return hall -> {
            for (int number : numbers) {
                hall.slopeNumber(number);
            }
            hall.slope();
        };
    }

    /** Eight are added one by one by this call; a ninth is not. */
    private static void dueNumbers(int promise, Consumer<Morphichall> made, String name, Object... arguments) {
        promise(promise, "Returns its number.");
        for (int count = 3; count < 8; count++) {
            due(count, made.andThen(Halls.withSequences(count)), name, arguments);
        }
        Morphichall hall = Check.prepared(made);
        for (int number = 0; number < 8; number++) {
            if (name.equals("slope") && number > 0) {
                hall.slopeNumber(1);
            }
            next(number, hall, name, arguments);
        }
        terms("At most 8 sequences are numbered from 0.");
        if (name.equals("slope")) {
            hall.slopeNumber(1);
        }
        next(STATE, hall, name, arguments);
        next(8, hall, "sequences");
        next(INDEX, hall, "letterAt", 8, 0);
        next(INDEX, hall, "letterAt", -1, 0);
        next('a', hall, "letterAt", 7, 0);
    }

    private static void fixed() {
        Consumer<Morphichall> more = hall -> {
            hall.morphism(4);
            Halls.morphism(hall, "ba", "ab");
            Halls.morphism(hall, "aa", "b");
        };
        new Refusals(9, "fixed").hall("3 sequences", SOME.andThen(more))
                .hall("7 sequences", Halls.withSequences(7).andThen(more))
                .hall("8 sequences", Halls.withSequences(8).andThen(more), STATE)
                .argument("morphism", 0, 4).wrong(INDEX, -1, 5, Integer.MIN_VALUE, Integer.MAX_VALUE)
                .wrong(UNSUPPORTED, 2, 3).never(INDEX, UNSUPPORTED).check();
        promise(9, "- `morphism`: the morphism");
        due(INDEX, NEW, "fixed", 0);
        due(0, hall -> {
            for (int i = 0; i < 6; i++) {
                Halls.morphism(hall, "ab", "a");
            }
        }, "fixed", 5);
        dueNumbers(9, hall -> Halls.morphism(hall, "ab", "a"), "fixed", 0);
        promise(9, "Adds the fixed word of a morphism as a sequence by letters.");
        dueText("abaababaabaababaababa", fixedOnly("ab", "a"), 0);
        due(UNSUPPORTED, fixedOnly("ab", "a"), "least", 0);
        terms("It can be prolonged if the image of a begins with a and has 2 letters or more");
        String[] images = {"a", "b", "ba", "bb", "baaaaa", "aa", "ab", "aab", "aaaaaa", "abbbbb"};
        for (int i = 0; i < images.length; i++) {
            String image = images[i];
            due(i < 5 ? UNSUPPORTED : 0, hall -> Halls.morphism(hall, image, "ab"), "fixed", 0);
        }
    }

    private static void growth() {
        String[][] all = {{"ab", "b"}, {"ab", "c", "c"}, {"ab", "c", "d", "d"}, {"aa", "b"}, {"ab", "ba"},
            {"abcdba", "b", "cc", "aaaaaa"}, {"aaaaaa", "bbbbbb"}, {"aab", "bba"}, {"abc", "ac", "b"}};
        for (String[] images : all) {
            StringBuilder word = new StringBuilder("a");
            for (int read = 0; word.length() < 1024; read++) {
                word.append(read == 0 ? images[0].substring(1) : images[word.charAt(read) - 'a']);
            }
            terms("the fixed word is then what a becomes without end.");
            String text = Halls.wholeText(fixedOnly(images), 0);
            is("all of its letters", text, word.substring(0, 1024));
            terms("a morphism that can be prolonged grows.");
            is("as many as there are places", text.length(), 1024);
            terms("One by letters has the places 0 to 1023.");
            due(word.charAt(0), fixedOnly(images), "letterAt", 0, 0);
            due(word.charAt(1023), fixedOnly(images), "letterAt", 0, 1023);
            due(ARGUMENT, fixedOnly(images), "letterAt", 0, 1024);
            due(ARGUMENT, fixedOnly(images), "letterAt", 0, -1);
        }
        terms("It is a fixed word as the morphism was when it was added");
        Morphichall hall = Check.prepared(fixedOnly("ab", "a"));
        Halls.type(hall, "bbbbbb");
        next(6, hall, "setImage", 0, 'a');
        next(6, hall, "setImage", 0, 'b');
        is("it stays", Halls.text(hall, 0, 0, 13), "abaababaabaab");
        next(UNSUPPORTED, hall, "fixed", 0);
    }

    private static void slopeNumber() {
        new Refusals(10, "slopeNumber").range("number", 1, 9, ARGUMENT).hall("an empty row", Halls.withRow(0))
                .hall("a row of 7", Halls.withRow(7)).hall("a row of 8", Halls.withRow(8), STATE).check();
        promise(10, "Puts a number behind the row for slopes.");
        dueText("aaab", slopeOnly(3, 1), 0);
        dueText("abab", slopeOnly(1, 3), 0);
        promise(10, "Returns how many the row has.");
        Morphichall hall = new Morphichall();
        for (int i = 1; i <= 8; i++) {
            next(i, hall, "slopeNumber", i);
        }
        next(STATE, hall, "slopeNumber", 1);
        next(ARGUMENT, hall, "slopeNumber", 10);
    }

    private static void slope() {
        Consumer<Morphichall> row = hall -> hall.slopeNumber(2);
        new Refusals(11, "slope").hall("a row of 1", Halls.withRow(1)).hall("a row of 8", Halls.withRow(8))
                .hall("a row of 2 and 7 sequences", Halls.withSequences(7))
                .hall("an empty row", Halls.withRow(0), UNSUPPORTED)
                .hall("an empty row and 7 sequences", then(Halls.withSequences(6), "slope"), UNSUPPORTED)
                .hall("8 sequences", Halls.withSequences(8), STATE)
                .hall("an empty row and 8 sequences", then(Halls.withSequences(7), "slope"), UNSUPPORTED, STATE)
                .check();
        dueNumbers(11, row, "slope");
        promise(11, "Adds the sequence by the slope of the row, which is empty then.");
        for (int numbers : new int[] {1, 8}) {
            Morphichall hall = Check.prepared(then(Halls.withRow(numbers), "slope"));
            next(4, hall, "sequences");
            next(UNSUPPORTED, hall, "slope");
            next(1, hall, "slopeNumber", 9);
            next(UNSUPPORTED, hall, "least", 3);
        }
    }

    private static void slopeTexts() {
        int[][] rows = {{1}, {2}, {9}, {1, 9}, {9, 1}, {1, 1, 2}, {1, 2, 3, 4, 5, 6, 7, 8}, {9, 8, 7, 6, 5, 4, 3, 2},
            {9, 9, 9, 9, 9, 9, 9, 9}, {1, 1, 1, 1, 1, 1, 1, 1}, {1, 1, 1, 1, 1, 1, 1, 9}, {1, 1, 1, 1, 1, 1, 9},
            {1, 1, 1, 1, 1, 1, 1, 2}, {2, 1, 1, 1, 1, 1, 1, 1}};
        for (int[] row : rows) {
            String before = "b";
            String last = "a";
            for (int told = 0; last.length() < 1024; told++) {
                String now = last.repeat(row[told % row.length]) + before;
                before = last;
                last = now;
            }
            terms("Or it is one by a slope: of a row of at most 8 numbers from 1 to 9, taken round and round");
            is("all of its letters", Halls.wholeText(slopeOnly(row), 0), last.substring(0, 1024));
            terms("One by letters has the places 0 to 1023.");
            due(last.charAt(1023), slopeOnly(row), "letterAt", 0, 1023);
            due(ARGUMENT, slopeOnly(row), "letterAt", 0, 1024);
            due(ARGUMENT, slopeOnly(row), "letterAt", 0, -1);
        }
    }

    private static void automaton() {
        new Refusals(12, "automaton").range("base", 2, 4, ARGUMENT).range("states", 1, 8, ARGUMENT)
                .hall("3 sequences", SOME).hall("7 sequences", Halls.withSequences(7))
                .hall("8 sequences", Halls.withSequences(8), STATE).check();
        dueNumbers(12, NEW, "automaton", 2, 1);
        promise(12, "Adds a sequence by an automaton.");
        due('a', then(NEW, "automaton", 2, 1), "letterAt", 0, 2000000000);
        for (int base = 1; base <= 5; base++) {
            for (int states = 0; states <= 9; states++) {
                boolean is = base >= 2 && base <= 4 && states >= 1 && states <= 8;
                terms("One by an automaton has a base, 2 to 4, and 1 to 8 states, from 0 on");
                due(is ? 0 : ARGUMENT, NEW, "automaton", base, states);
                if (is) {
                    dueAtFirst(base, states);
                }
            }
        }
    }

    private static void dueAtFirst(int base, int states) {
        Morphichall hall = Check.prepared(then(NEW, "automaton", base, states));
        for (int state = 0; state < states; state++) {
            terms("each with a letter, a at first");
            next('a', hall, "give", 0, state, 'd');
            terms("and for each digit of the base an arrow to a state, at first to itself.");
            for (int digit = 0; digit < base; digit++) {
                next(state, hall, "arrow", 0, state, digit, 0);
            }
            next(ARGUMENT, hall, "arrow", 0, state, base, 0);
        }
        next(ARGUMENT, hall, "give", 0, states, 'd');
        next(ARGUMENT, hall, "arrow", 0, states, 0, 0);
        next(ARGUMENT, hall, "arrow", 0, 0, 0, states);
    }

    private static void automatonOf() {
        Consumer<Morphichall> more = hall -> {
            hall.morphism(2);
            Halls.morphism(hall, "aaaaa", "bbbbb");
            Halls.morphism(hall, "bbbb", "aaaa");
            Halls.morphism(hall, "aba", "bbb");
        };
        new Refusals(13, "automatonOf").hall("3 sequences", SOME.andThen(more))
                .hall("7 sequences", Halls.withSequences(7).andThen(more))
                .hall("8 sequences", Halls.withSequences(8).andThen(more), STATE)
                .argument("morphism", 0, 4, 5).wrong(INDEX, -1, 6, Integer.MIN_VALUE, Integer.MAX_VALUE)
                .wrong(UNSUPPORTED, 1, 2, 3).never(INDEX, UNSUPPORTED).check();
        promise(13, "- `morphism`: the morphism");
        due(INDEX, NEW, "automatonOf", 0);
        dueNumbers(13, hall -> Halls.morphism(hall, "ab", "ba"), "automatonOf", 0);
        for (int letters = 2; letters <= 4; letters++) {
            for (int length = 1; length <= 6; length++) {
                String[] images = new String[letters];
                for (int i = 0; i < letters; i++) {
                    images[i] = LETTERS.substring(0, letters).repeat(5).substring(i + 1, i + 1 + length);
                }
                terms("A uniform morphism of images of 2 to 4 letters makes an automaton of that base");
                boolean is = length >= 2 && length <= 4;
                due(is ? 0 : UNSUPPORTED, hall -> Halls.morphism(hall, images), "automatonOf", 0);
                if (is) {
                    dueArrows(images);
                }
            }
        }
    }

    private static void dueArrows(String[] images) {
        Morphichall hall = Check.prepared(h -> h.automatonOf(Halls.morphism(h, images)));
        for (int state = 0; state < images.length; state++) {
            terms("states are its letters, in their order, each with itself as its letter");
            next(LETTERS.charAt(state), hall, "give", 0, state, 'a');
            terms("with arrows, for the digit d, to the letter at the place d of its image.");
            for (int digit = 0; digit < images[state].length(); digit++) {
                next(images[state].charAt(digit) - 'a', hall, "arrow", 0, state, digit, 0);
            }
            next(ARGUMENT, hall, "arrow", 0, state, images[state].length(), 0);
        }
        next(ARGUMENT, hall, "give", 0, images.length, 'a');
        promise(13, "Adds the sequence by the automaton that a morphism makes.");
        next(1, hall, "sequences");
    }

    private static void arrow() {
        Consumer<Morphichall> most = then(SOME, "automaton", 4, 8);
        new Refusals(14, "arrow").hall("an automaton of base 4 and 8 states", most)
                .argument("sequence", 3).wrong(INDEX, -1, 4, Integer.MIN_VALUE, Integer.MAX_VALUE)
                .wrong(UNSUPPORTED, 0).range("state", 0, 7, ARGUMENT).range("digit", 0, 3, ARGUMENT)
                .range("to", 0, 7, ARGUMENT).never(INDEX, UNSUPPORTED).check();
        Consumer<Morphichall> fewest = then(SOME, "automaton", 2, 1);
        new Refusals(14, "arrow").hall("an automaton of base 2 and 1 state", fewest)
                .argument("sequence", 3).wrong(INDEX, 4).wrong(UNSUPPORTED, 0).range("state", 0, 0, ARGUMENT)
                .range("digit", 0, 1, ARGUMENT).range("to", 0, 0, ARGUMENT).never(INDEX, UNSUPPORTED).check();
        promise(14, "Tells an arrow of an automaton.");
        due('d', then(then(most, "give", 3, 7, 'd'), "arrow", 3, 0, 3, 7), "letterAt", 3, 3);
        due('a', then(then(most, "give", 3, 7, 'd'), "arrow", 3, 0, 3, 7), "letterAt", 3, 2);
        promise(14, "Returns the state to which it led.");
        Morphichall hall = Check.prepared(most);
        next(7, hall, "arrow", 3, 7, 3, 0);
        next(0, hall, "arrow", 3, 7, 3, 6);
        next(6, hall, "arrow", 3, 7, 3, 7);
        next(7, hall, "arrow", 3, 7, 2, 0);
    }

    private static void give() {
        Consumer<Morphichall> most = then(SOME, "automaton", 4, 8);
        new Refusals(15, "give").hall("an automaton of base 4 and 8 states", most)
                .argument("sequence", 3).wrong(INDEX, -1, 4, Integer.MIN_VALUE, Integer.MAX_VALUE)
                .wrong(UNSUPPORTED, 0).range("state", 0, 7, ARGUMENT).signs("letter", LETTERS, ARGUMENT)
                .never(INDEX, UNSUPPORTED).check();
        promise(15, "Tells the letter of a state.");
        due('d', then(most, "give", 3, 0, 'd'), "letterAt", 3, 0);
        due('a', then(most, "give", 3, 7, 'd'), "letterAt", 3, 0);
        promise(15, "Returns the letter before.");
        Morphichall hall = Check.prepared(most);
        next('a', hall, "give", 3, 7, 'd');
        next('d', hall, "give", 3, 7, 'b');
        next('b', hall, "give", 3, 7, 'b');
        next('a', hall, "give", 3, 6, 'c');
    }

    private static void sequences() {
        promise(16, "Returns how many sequences there are.");
        due(0, NEW, "sequences");
        promise(16, "Returns how many.");
        for (int count = 3; count <= 8; count++) {
            due(count, Halls.withSequences(count), "sequences");
            due(count, then(then(Halls.withSequences(count), "automaton", 5, 1), "fixed", 9), "sequences");
        }
        due(8, then(Halls.withSequences(8), "automaton", 2, 1), "sequences");
    }

    private static void letterAt() {
        new Refusals(17, "letterAt").hall("one by letters", SOME).argument("sequence", 0)
                .wrong(INDEX, -1, 3, Integer.MIN_VALUE, Integer.MAX_VALUE).range("place", 0, 1023, ARGUMENT).check();
        new Refusals(17, "letterAt").hall("two by automata", SOME).argument("sequence", 1, 2).wrong(INDEX, -1, 3)
                .range("place", 0, 2000000000, ARGUMENT).check();
        new Refusals(17, "letterAt").hall("8 sequences", Halls.withSequences(8)).argument("sequence", 7)
                .wrong(INDEX, -1, 8).range("place", 0, 2000000000, ARGUMENT).check();
        promise(17, "Returns a letter of a sequence.");
        due('b', automatonOnly(B_AT_64), "letterAt", 0, 64);
        promise(17, "Returns the letter.");
        for (int place = 0; place < 100; place++) {
            due(place == 31 ? 'b' : 'a', automatonOnly(B_AT_31), "letterAt", 0, place);
            due(place == 32 ? 'b' : 'a', automatonOnly(B_AT_32), "letterAt", 0, place);
            due(place == 62 ? 'b' : 'a', automatonOnly(B_AT_62), "letterAt", 0, place);
            due(place == 63 ? 'b' : 'a', automatonOnly(B_AT_63), "letterAt", 0, place);
            due(place == 64 ? 'b' : 'a', automatonOnly(B_AT_64), "letterAt", 0, place);
        }
    }

    /** Automata that tell how many digits there are, the highest one, the lowest one, and their sum. */
    private static void longestPlaces() {
        terms("To find its letter at a place, which can be up to 2000000000, it begins in the state 0");
        for (int base = 2; base <= 4; base++) {
            Morphichall hall = new Morphichall();
            String digits = "0123".substring(0, base);
            Halls.automaton(hall, "a" + "1".repeat(base), "b" + "2".repeat(base), "c" + "3".repeat(base),
                    "d" + "0".repeat(base));
            Halls.automaton(hall, "a" + digits, "b" + "1".repeat(base), "c" + "2".repeat(base), "d" + "3".repeat(base));
            Halls.automaton(hall, "a" + digits, "b" + digits, "c" + digits, "d" + digits);
            Halls.automaton(hall, "a" + digits, "b" + "1230".substring(0, base), "c" + "2301".substring(0, base),
                    "d" + "3012".substring(0, base));
            for (long power = 1; power <= 2000000000L; power *= base) {
                duePlaces(hall, base, (int) power - 1);
                duePlaces(hall, base, (int) power);
            }
            duePlaces(hall, base, 1999999999);
            duePlaces(hall, base, 2000000000);
            next(ARGUMENT, hall, "letterAt", 0, 2000000001);
            next(ARGUMENT, hall, "letterAt", 0, -1);
        }
    }

    private static void duePlaces(Morphichall hall, int base, int place) {
        String digits = place == 0 ? "" : Integer.toString(place, base);
        int sum = digits.chars().map(digit -> digit - '0').sum();
        next(LETTERS.charAt(digits.length() % 4), hall, "letterAt", 0, place);
        next(LETTERS.charAt(place == 0 ? 0 : digits.charAt(0) - '0'), hall, "letterAt", 1, place);
        next(LETTERS.charAt(place % base), hall, "letterAt", 2, place);
        next(LETTERS.charAt(sum % 4), hall, "letterAt", 3, place);
    }

    private static void least() {
        new Refusals(18, "least").hall("3 sequences", SOME).argument("sequence", 1, 2)
                .wrong(INDEX, -1, 3, Integer.MIN_VALUE, Integer.MAX_VALUE).wrong(UNSUPPORTED, 0)
                .never(INDEX, UNSUPPORTED).check();
        promise(18, "- `sequence`: the sequence");
        due(INDEX, NEW, "least", 0);
        due(1, Halls.withSequences(8), "least", 7);
        due(UNSUPPORTED, slopeOnly(1), "least", 0);
        promise(18, "Returns how many states the least automaton of a sequence has.");
        for (int states = 1; states <= 8; states++) {
            due(1, then(NEW, "automaton", 4, states), "least", 0);
            due(states, automatonOnly(Halls.ring(states)), "least", 0);
        }
        promise(18, "Returns how many.");
        due(8, automatonOnly("a12", "a23", "a34", "a45", "a56", "a67", "a77", "b00"), "least", 0);
        due(8, automatonOnly("a1111", "a1112", "a2223", "a3334", "a4445", "a5556", "a6667", "b7777"), "least", 0);
        due(4, automatonOnly("a14", "a25", "a36", "b07", "a50", "a61", "a72", "b43"), "least", 0);
        terms("The least automaton of one by an automaton is the least number of states of one that gives the same");
        due(3, automatonOnly("a12", "b11", "a22"), "least", 0);
        due(2, automatonOnly("a0001", "b1111"), "least", 0);
        due(1, automatonOnly("a0001", "a1111"), "least", 0);
        due(1, automatonOnly("a0000", "b1111", "c2222"), "least", 0);
        due(2, automatonOnly("d01", "c10"), "least", 0);
    }

    private static void kernel() {
        new Refusals(19, "kernel").hall("3 sequences", SOME).argument("sequence", 1, 2)
                .wrong(INDEX, -1, 3, Integer.MIN_VALUE, Integer.MAX_VALUE).wrong(UNSUPPORTED, 0)
                .range("depth", 0, 4, ARGUMENT).never(INDEX, UNSUPPORTED).check();
        promise(19, "- `sequence`: the sequence");
        due(INDEX, NEW, "kernel", 0, 0);
        due(1, Halls.withSequences(8), "kernel", 7, 4);
        due(UNSUPPORTED, slopeOnly(1), "kernel", 0, 0);
        promise(19, "- `depth`: the depth, 0 to 4");
        String[] deeper = {"a11", "a22", "a33", "a44", "a55", "a66", "b77", "a77"};
        for (int depth = 0; depth <= 4; depth++) {
            due(1 + depth, automatonOnly(deeper), "kernel", 0, depth);
        }
        promise(19, "Returns how many unlike sequences the kernel has.");
        due(1, then(NEW, "automaton", 2, 1), "kernel", 0, 4);
        due(2, automatonOnly("a01", "b10"), "kernel", 0, 4);
        due(2, automatonOnly("a01", "b10"), "kernel", 0, 1);
        promise(19, "Returns how many.");
        due(1, automatonOnly("a01", "b10"), "kernel", 0, 0);
        due(4, automatonOnly("a0123", "b1230", "c2301", "d3012"), "kernel", 0, 4);
    }

    /** What would be counted with one letter more, or less, and with the first rest or the last one left out. */
    private static void kernelLetters() {
        terms("alike if their first 32 letters are.");
        due(3, automatonOnly(B_AT_31), "kernel", 0, 1);
        due(2, automatonOnly(B_AT_62), "kernel", 0, 1);
        due(2, automatonOnly(B_AT_63), "kernel", 0, 1);
        due(1, automatonOnly(B_AT_64), "kernel", 0, 0);
        due(1, automatonOnly(B_AT_64), "kernel", 0, 1);
        due(1, automatonOnly(B_AT_32), "kernel", 0, 0);
        due(2, automatonOnly(B_AT_32), "kernel", 0, 1);
        terms("The kernel of a depth: all sequences that come of it by taking only each place that is, divided by");
        for (int base = 2; base <= 4; base++) {
            String to = "1".repeat(base);
            String last = "0".repeat(base - 1) + "1";
            String first = "0" + "1".repeat(base - 1);
            due(3, automatonOnly("a" + last, "b" + last), "kernel", 0, 1);
            due(3, automatonOnly("a" + first, "b" + first), "kernel", 0, 1);
            due(1, automatonOnly("a" + to, "a" + to), "kernel", 0, 1);
        }
    }

    private static BigInteger sum(String... texts) {
        BigInteger total = BigInteger.valueOf(7);
        for (String text : texts) {
            for (char letter : text.toCharArray()) {
                total = total.multiply(BigInteger.valueOf(31)).add(BigInteger.valueOf(letter - 'a'));
            }
        }
        return total;
    }

    private static void checksum() {
        promise(51, "Returns a sum over all sequences.");
        String same = "a".repeat(32);
        due(sum(same).longValue(), then(NEW, "automaton", 2, 1), "checksum");
        due(sum("abbabaabbaababbabaababbaabbabaab").longValue(), automatonOnly("a01", "b10"), "checksum");
        promise(51, "Returns 7 at first, then for each sequence and each of its places 0 to 31 31 times itself plus");
        due(7, NEW, "checksum");
        due(sum("a".repeat(31) + "b").longValue(), automatonOnly(B_AT_31), "checksum");
        due(sum(same).longValue(), automatonOnly(B_AT_32), "checksum");
        due(sum("d".repeat(32)).longValue(), automatonOnly("d00"), "checksum");
        due(sum("aaaaaaaaab".repeat(3) + "aa").longValue(), slopeOnly(9), "checksum");
        String[] texts = new String[8];
        Morphichall hall = new Morphichall();
        for (int i = 0; i < 8; i++) {
            texts[i] = "d".repeat(32);
            Halls.automaton(hall, "d00");
            String[] until = Arrays.copyOf(texts, i + 1);
            is("it goes round as a long", sum(until).bitLength() > 63, true);
            next(sum(until).longValue(), hall, "checksum");
        }
    }
}
