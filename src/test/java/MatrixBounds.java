import java.math.BigInteger;
import java.util.function.Consumer;

/** Promises 43 to 46, and what the terms say of sequences of numbers, at their bounds. */
final class MatrixBounds extends Bounds {
    private static final int HIGHEST = 1000000000;
    private static final String PARTS = "l01r";

    private MatrixBounds() {
    }

    static void check() {
        regular();
        entrySentences();
        entryMix(hall -> hall.regular(1), 1);
        entryMix(SOME, 2);
        entryMix(then(SOME, "regular", 1), 2);
        entryOfSixes();
        everyPart();
        added();
        addedRanks();
        addedTerms();
        term();
        termsGoRound();
    }

    private static void regular() {
        new Refusals(43, "regular").range("rank", 1, 3, ARGUMENT).hall("1 of them", SOME)
                .hall("3 of them", Halls.withRegulars(3)).hall("4 of them", Halls.withRegulars(4), STATE).check();
        promise(43, "Adds a sequence of numbers.");
        for (int rank = 1; rank <= 3; rank++) {
            Consumer<Morphichall> one = then(NEW, "regular", rank);
            due(0, one, "entry", 0, '0', rank - 1, rank - 1, 9);
            due(INDEX, one, "entry", 0, '0', rank, 0, 9);
            due(INDEX, one, "entry", 0, '0', 0, rank, 9);
        }
        promise(43, "Returns its number.");
        Morphichall hall = new Morphichall();
        for (int number = 0; number < 4; number++) {
            next(INDEX, hall, "term", number, 0);
            next(number, hall, "regular", 1 + number % 3);
            next(0, hall, "term", number, HIGHEST);
        }
        terms("At most 4 sequences of numbers are numbered from 0");
        next(STATE, hall, "regular", 1);
        next(STATE, hall, "added", 0, 0);
        next(INDEX, hall, "term", 4, 0);
        next(INDEX, hall, "term", -1, 0);
    }

    private static void entrySentences() {
        Consumer<Morphichall> three = then(NEW, "regular", 3);
        for (int number = -1; number <= 1; number++) {
            promise(44, "- `regular`: the sequence of numbers");
            due(number == 0 ? 0 : INDEX, three, "entry", number, 'l', 0, 0, 9);
        }
        for (int at = -1; at <= 3; at++) {
            boolean is = at >= 0 && at < 3;
            promise(44, "- `row`: the row, 0 for l");
            due(at == 0 ? 0 : INDEX, three, "entry", 0, 'l', at, 2, 9);
            due(is ? 0 : INDEX, three, "entry", 0, '0', at, 2, 9);
            due(is ? 0 : INDEX, three, "entry", 0, '1', at, 2, 9);
            due(is ? 0 : INDEX, three, "entry", 0, 'r', at, 0, 9);
            promise(44, "- `column`: the column, 0 for r");
            due(is ? 0 : INDEX, three, "entry", 0, 'l', 0, at, 9);
            due(is ? 0 : INDEX, three, "entry", 0, '0', 2, at, 9);
            due(is ? 0 : INDEX, three, "entry", 0, '1', 2, at, 9);
            due(at == 0 ? 0 : INDEX, three, "entry", 0, 'r', 2, at, 9);
        }
        for (int value : new int[] {-10, -9, 9, 10}) {
            promise(44, "- `value`: the number");
            due(Math.abs(value) == 9 ? 0 : ARGUMENT, three, "entry", 0, '0', 2, 2, value);
        }
        promise(44, "the row is looked at as that of a matrix if there is no such part");
        due(ARGUMENT, then(NEW, "regular", 3), "entry", 0, 'x', 2, 2, 0);
        due(INDEX, then(NEW, "regular", 3), "entry", 0, 'x', 3, 0, 0);
        due(INDEX, then(NEW, "regular", 3), "entry", 0, 'x', 0, 3, 0);
        due(INDEX, then(NEW, "regular", 3), "entry", 0, 'x', -1, 0, 0);
        promise(44, "Returns the one before.");
        for (int value = -9; value <= 9; value++) {
            Consumer<Morphichall> told = then(then(NEW, "regular", 1), "entry", 0, 'l', 0, 0, value);
            due(0, then(NEW, "regular", 1), "entry", 0, 'l', 0, 0, value);
            due(value, told, "entry", 0, 'l', 0, 0, 0);
            due(value, then(then(told, "entry", 0, 'l', 0, 0, 10), "entry", 0, 'l', 0, 0, -10), "entry", 0, 'l', 0, 0,
                    9);
        }
        terms("numbers all 0 at first, which can be told from -9 to 9");
        for (int value = -11; value <= 11; value++) {
            due(Math.abs(value) > 9 ? ARGUMENT : 0, then(NEW, "regular", 1), "entry", 0, 'r', 0, 0, value);
        }
    }

    /** What is due for an entry of the first of some sequences of numbers. */
    private static Class<?> dueThrow(int rank, Object[] told, int count) {
        char part = (char) told[1];
        int row = (int) told[2];
        int column = (int) told[3];
        boolean isThere = (int) told[0] >= 0 && (int) told[0] < count && row >= 0 && row < (part == 'l' ? 1 : rank)
                && column >= 0 && column < (part == 'r' ? 1 : rank);
        boolean isRight = PARTS.indexOf(part) >= 0 && Math.abs((long) (int) told[4]) <= 9;
        return !isThere ? INDEX : !isRight ? ARGUMENT : null;
    }

    private static void entryMix(Consumer<Morphichall> made, int rank) {
        int count = 0;
        while (!Call.answer(Check.prepared(made), "term", count, 0).startsWith("throws.")) {
            count++;
        }
        Refusals.mixedElsewhere("entry");
        String untouched = View.of(maker(made));
        for (int regular : new int[] {-1, 0, count, Integer.MIN_VALUE, Integer.MAX_VALUE}) {
            for (char part : "l01rx".toCharArray()) {
                for (int row = -1; row <= rank; row++) {
                    for (int column = -1; column <= rank; column++) {
                        for (int value : new int[] {-10, -9, 9, 10}) {
                            dueEntry(made, untouched, dueThrow(rank, new Object[] {regular, part, row, column, value},
                                    count), regular, part, row, column, value);
                        }
                    }
                }
            }
        }
        for (int far : new int[] {Integer.MIN_VALUE, Integer.MAX_VALUE}) {
            dueEntry(made, untouched, INDEX, 0, '0', far, 0, 10);
            dueEntry(made, untouched, INDEX, 0, 'l', far, 0, 10);
            dueEntry(made, untouched, INDEX, 0, '0', 0, far, 10);
            dueEntry(made, untouched, INDEX, 0, 'r', 0, far, 10);
            dueEntry(made, untouched, ARGUMENT, 0, 'r', 0, 0, far);
        }
    }

    private static void dueEntry(Consumer<Morphichall> made, String untouched, Class<?> due, Object... told) {
        String answer = Call.answer(Check.prepared(made), "entry", told);
        String call = Call.told("entry", told);
        if (due == null) {
            promise(44, "Returns the one before.");
            is(call + " throws", answer.startsWith("throws."), false);
            return;
        }
        promise(44, "Throws `" + due.getSimpleName() + "`");
        is(call, answer, Call.thrown(due));
        at("Exceptions", "A method that throws an exception changes nothing.");
        is("all that is seen after " + call, View.of(maker(then(made, "entry", told))), untouched);
    }

    private static void rankOfSix(Morphichall hall) {
        hall.regular(3);
        hall.added(0, 0);
    }

    private static void entryOfSixes() {
        promise(44, "Tells a number of a sequence of numbers.");
        for (char part : "l01rx".toCharArray()) {
            for (int row = -1; row <= 6; row++) {
                for (int column = -1; column <= 6; column++) {
                    for (int value : new int[] {-10, -9, 9, 10}) {
                        Object[] told = {1, part, row, column, value};
                        Class<?> due = dueThrow(6, told, 2);
                        due(due == null ? "0" : Call.thrown(due), MatrixBounds::rankOfSix, "entry", told);
                    }
                }
            }
        }
        Morphichall hall = Check.prepared(MatrixBounds::rankOfSix);
        for (int turn = 0; turn < 2; turn++) {
            int value = 0;
            for (char part : PARTS.toCharArray()) {
                for (int row = 0; row < (part == 'l' ? 1 : 6); row++) {
                    for (int column = 0; column < (part == 'r' ? 1 : 6); column++) {
                        int told = value % 19 - 9;
                        next(turn == 0 ? 0 : told, hall, "entry", 1, part, row, column, told);
                        value++;
                    }
                }
            }
        }
    }

    private static void everyPart() {
        promise(44, "- `part`: l the row, 0 and 1 the matrices, r the column");
        Morphichall hall = null;
        for (int sign = 0; sign <= Character.MAX_VALUE; sign++) {
            if (sign % 400 == 0) {
                hall = Check.prepared(then(NEW, "regular", 1));
            }
            next(PARTS.indexOf(sign) >= 0 ? 0 : ARGUMENT, hall, "entry", 0, (char) sign, 0, 0, 0);
        }
    }

    private static void added() {
        Consumer<Morphichall> six = then(then(SOME, "regular", 3), "regular", 1);
        Consumer<Morphichall> eight = then(then(SOME, "added", 0, 0), "regular", 1);
        new Refusals(45, "added").hall("ranks of 3 and 3, 3 of them", six)
                .hall("ranks of 4 and 4, 3 of them", eight, UNSUPPORTED)
                .hall("ranks of 3 and 3, 4 of them", then(six, "regular", 1), STATE)
                .hall("ranks of 4 and 4, 4 of them", then(eight, "regular", 1), UNSUPPORTED, STATE)
                .argument("one", 1).wrong(INDEX, -1, 4, Integer.MIN_VALUE, Integer.MAX_VALUE)
                .argument("other", 1).wrong(INDEX, -1, 4, Integer.MIN_VALUE, Integer.MAX_VALUE).check();
        promise(45, "Throws `IndexOutOfBoundsException` if there is no such sequence of numbers, for either");
        due(INDEX, NEW, "added", 0, 0);
        due(INDEX, then(NEW, "regular", 1), "added", 0, 1);
        due(INDEX, then(NEW, "regular", 1), "added", 1, 0);
        promise(45, "Returns its number.");
        Morphichall hall = Check.prepared(then(NEW, "regular", 1));
        for (int number = 1; number <= 3; number++) {
            next(number, hall, "added", 0, number == 3 ? 1 : 0);
        }
        next(STATE, hall, "added", 0, 0);
    }

    /** Rows of ranks that are told, or added of two, and what is due for two of them: 7 is too much, 6 is not. */
    private static void addedRanks() {
        promise(45, "Throws `UnsupportedOperationException` if their ranks together are more than 6");
        Consumer<Morphichall> threes = then(NEW, "regular", 3);
        due(1, threes, "added", 0, 0);
        Consumer<Morphichall> fourAndThree = then(then(threes, "regular", 1), "added", 0, 1);
        due(UNSUPPORTED, fourAndThree, "added", 2, 0);
        due(UNSUPPORTED, fourAndThree, "added", 0, 2);
        due(3, fourAndThree, "added", 2, 1);
        Consumer<Morphichall> fiveAndTwo = then(then(threes, "regular", 2), "added", 0, 1);
        due(UNSUPPORTED, fiveAndTwo, "added", 2, 1);
        due(UNSUPPORTED, fiveAndTwo, "added", 1, 2);
        Consumer<Morphichall> fourAndTwo = then(then(NEW, "regular", 2), "added", 0, 0);
        due(2, fourAndTwo, "added", 0, 1);
        due(2, fourAndTwo, "added", 1, 0);
        due(UNSUPPORTED, fourAndTwo, "added", 1, 1);
        Consumer<Morphichall> sixAndOne = then(then(threes, "added", 0, 0), "regular", 1);
        due(UNSUPPORTED, sixAndOne, "added", 1, 2);
        due(UNSUPPORTED, sixAndOne, "added", 2, 1);
        terms("each of a rank 1 to 6");
        due(0, sixAndOne, "entry", 1, '1', 5, 5, 9);
        due(INDEX, sixAndOne, "entry", 1, '1', 6, 0, 9);
        due(INDEX, sixAndOne, "entry", 1, '1', 0, 6, 9);
        due(ARGUMENT, NEW, "regular", 0);
        due(0, NEW, "regular", 1);
    }

    private static void fillEntries(Morphichall hall, int regular, int rank, int seed) {
        int value = seed;
        for (char part : PARTS.toCharArray()) {
            for (int row = 0; row < (part == 'l' ? 1 : rank); row++) {
                for (int column = 0; column < (part == 'r' ? 1 : rank); column++) {
                    value = (value * 2 + 3) % 19;
                    hall.entry(regular, part, row, column, value - 9);
                }
            }
        }
    }

    private static void addedTerms() {
        promise(45, "Adds a sequence of numbers that is the sum of two.");
        for (int first = 1; first <= 3; first++) {
            for (int second = 1; second <= 3; second++) {
                Morphichall hall = new Morphichall();
                hall.regular(first);
                hall.regular(second);
                fillEntries(hall, 0, first, 1);
                fillEntries(hall, 1, second, 2);
                next(2, hall, "added", 0, 1);
                next(3, hall, "added", 1, 1);
                for (int place : new int[] {0, 1, 2, 3, 100, 536870911, 536870912, HIGHEST - 1, HIGHEST}) {
                    next(hall.term(0, place) + hall.term(1, place), hall, "term", 2, place);
                    promise(45, "- `other`: another one, or the same");
                    next(2 * hall.term(1, place), hall, "term", 3, place);
                    promise(45, "Adds a sequence of numbers that is the sum of two.");
                }
                long before = hall.term(2, 5);
                hall.entry(0, 'l', 0, 0, 9);
                hall.entry(0, 'r', 0, 0, 8);
                next(before, hall, "term", 2, 5);
            }
        }
    }

    private static void term() {
        new Refusals(46, "term").hall("1 of them", SOME).argument("regular", 0)
                .wrong(INDEX, -1, 1, Integer.MIN_VALUE, Integer.MAX_VALUE).range("place", 0, HIGHEST, ARGUMENT).check();
        promise(46, "- `regular`: the sequence of numbers");
        due(INDEX, NEW, "term", 0, 0);
        due(0, Halls.withRegulars(4), "term", 3, 0);
        due(INDEX, Halls.withRegulars(4), "term", 4, 0);
        promise(46, "Returns a term of a sequence of numbers.");
        Consumer<Morphichall> one = hall -> {
            hall.regular(1);
            hall.entry(0, 'l', 0, 0, 3);
            hall.entry(0, '0', 0, 0, 0);
            hall.entry(0, '1', 0, 0, 2);
            hall.entry(0, 'r', 0, 0, -9);
        };
        due(-27, one, "term", 0, 0);
        due(-54, one, "term", 0, 1);
        due(0, one, "term", 0, 2);
        due(-108, one, "term", 0, 3);
        due(-27L << 29, one, "term", 0, (1 << 29) - 1);
        due(0, one, "term", 0, 1 << 29);
    }

    private static void termsGoRound() {
        for (int turn = 1; turn <= 3; turn++) {
            Morphichall hall = Check.prepared(MatrixBounds::rankOfSix);
            fillEntries(hall, 1, 6, turn);
            BigInteger[][][] parts = readParts(Check.prepared(MatrixBounds::rankOfSix), turn);
            for (int place : new int[] {0, 1, 2, 3, 4, 5, 1023, 1024, 536870911, 536870912, HIGHEST - 1, HIGHEST}) {
                BigInteger due = exactTerm(parts, place);
                terms("its term at a number is the row times the matrices for its digits of base 2, the highest first");
                next(due.longValue(), hall, "term", 1, place);
                promise(46, "Returns the term.");
                next(due.longValue(), hall, "term", 1, place);
                is("more than a long has", due.bitLength() > 63 || place < HIGHEST - 1, true);
            }
        }
        terms("times the column, as longs go round.");
        BigInteger nine = BigInteger.valueOf(9);
        Morphichall hall = Check.prepared(then(NEW, "regular", 1));
        for (char part : PARTS.toCharArray()) {
            next(0, hall, "entry", 0, part, 0, 0, 9);
        }
        for (int digits = 0; digits <= 29; digits++) {
            next(nine.pow(digits + 2).longValue(), hall, "term", 0, (1 << digits) - 1);
        }
    }

    private static BigInteger[][][] readParts(Morphichall hall, int seed) {
        fillEntries(hall, 1, 6, seed);
        BigInteger[][][] parts = new BigInteger[4][6][6];
        for (int part = 0; part < 4; part++) {
            for (int row = 0; row < (part == 0 ? 1 : 6); row++) {
                for (int column = 0; column < (part == 3 ? 1 : 6); column++) {
                    parts[part][row][column] = BigInteger.valueOf(
                            hall.entry(1, PARTS.charAt(part), row, column, 0));
                }
            }
        }
        return parts;
    }

    private static BigInteger exactTerm(BigInteger[][][] parts, int place) {
        BigInteger[] now = parts[0][0];
        for (char digit : (place == 0 ? "" : Integer.toBinaryString(place)).toCharArray()) {
            now = times(now, parts[digit == '0' ? 1 : 2]);
        }
        return times(now, parts[3])[0];
    }

    private static BigInteger[] times(BigInteger[] row, BigInteger[][] matrix) {
        BigInteger[] out = new BigInteger[6];
        for (int column = 0; column < 6; column++) {
            out[column] = BigInteger.ZERO;
            for (int i = 0; i < 6; i++) {
                BigInteger entry = matrix[i][column] == null ? BigInteger.ZERO : matrix[i][column];
                out[column] = out[column].add(row[i].multiply(entry));
            }
        }
        return out;
    }
}
