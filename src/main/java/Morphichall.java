import java.util.Arrays;
import java.util.NoSuchElementException;

/** A hall of sequences that machines can tell; what each call promises stands in shared/DOC.md. */
public final class Morphichall {
    private static final int LETTERS = 4;
    private static final int MOST_TYPED = 40;
    private static final int MOST_MORPHISMS = 6;
    private static final int LEAST_MORPHISM_LETTERS = 2;
    private static final int LONGEST_IMAGE = 6;
    private static final int MOST_PRIMITIVE_TIMES = 16;
    private static final int MOST_GROWN_TIMES = 20;
    private static final int MOST_SLOPE_NUMBERS = 8;
    private static final int HIGHEST_SLOPE_NUMBER = 9;
    private static final int MOST_SEQUENCES = 8;
    private static final int TEXT_PLACES = 1024;
    private static final int HIGHEST_PLACE = 2000000000;
    private static final int LOWEST_BASE = 2;
    private static final int HIGHEST_BASE = 4;
    private static final int MOST_AUTOMATON_STATES = 8;
    private static final int DEEPEST_KERNEL = 4;
    private static final int KERNEL_PLACES = 32;
    private static final int HIGHEST_NUMBER = 1000000;
    private static final int HIGHEST_HEAP = 1000;
    private static final int VARIABLES = 5;
    private static final int SIGNS = 32;
    private static final int MOST_FORMULAS = 6;
    private static final int MOST_STATES = 200;
    private static final int HIGHEST_TOLD_NUMBER = 20;
    private static final int READ_PLACES = 20;
    private static final int HIGHEST_COUNTED = 1000;
    private static final int PIECE_PLACES = 600;
    private static final int LONGEST_PIECE = 12;
    private static final int LONGEST_COUNTED_PIECE = 60;
    private static final int MOST_EXPONENT_PLACES = 120;
    private static final int MOST_REGULARS = 4;
    private static final int HIGHEST_TOLD_RANK = 3;
    private static final int HIGHEST_RANK = 6;
    private static final int HIGHEST_ENTRY = 9;
    private static final int HIGHEST_TERM = 1000000000;
    private static final int LONGEST_AVOIDER = 10;
    private static final int MOST_WALKED_PLACES = 1000;
    private static final int CHECKED_PLACES = 32;

    private final int[] word;
    private int wordLength;
    private final Morphism[] morphisms;
    private int morphismCount;
    private final int[] slopeRow;
    private int slopeLength;
    private final Sequence[] sequenceRow;
    private int sequenceCount;
    private final Numeration numeration;
    private final Prover prover;
    private final Pieces pieceCounter;
    private final Regular[] regulars;
    private int regularCount;
    private final Patterns patterns;
    private final Turtle turtle;

    public Morphichall() {
        Keys keys = new Keys();
        word = new int[MOST_TYPED];
        morphisms = new Morphism[MOST_MORPHISMS];
        for (int i = 0; i < morphisms.length; i++) {
            morphisms[i] = new Morphism();
        }
        slopeRow = new int[MOST_SLOPE_NUMBERS];
        sequenceRow = new Sequence[MOST_SEQUENCES];
        for (int i = 0; i < sequenceRow.length; i++) {
            sequenceRow[i] = new Sequence();
        }
        numeration = new Numeration();
        prover = new Prover(keys);
        pieceCounter = new Pieces(keys);
        regulars = new Regular[MOST_REGULARS];
        for (int i = 0; i < regulars.length; i++) {
            regulars[i] = new Regular();
        }
        patterns = new Patterns();
        turtle = new Turtle(keys);
    }

    public int type(char letter) throws IllegalArgumentException, IllegalStateException {
        int typed = letterNumber(letter);
        if (typed < 0) {
            throw new IllegalArgumentException("no such letter");
        }
        if (wordLength >= word.length) {
            throw new IllegalStateException("the word is full");
        }
        word[wordLength] = typed;
        wordLength++;
        return wordLength;
    }

    public int wipe() {
        int had = wordLength;
        wordLength = 0;
        return had;
    }

    public int morphism(int letters) throws IllegalArgumentException, IllegalStateException {
        if (isOutside(letters, LEAST_MORPHISM_LETTERS, LETTERS)) {
            throw new IllegalArgumentException("not so many letters");
        }
        if (morphismCount >= morphisms.length) {
            throw new IllegalStateException("no more morphisms");
        }
        morphisms[morphismCount].begin(letters);
        morphismCount++;
        return morphismCount - 1;
    }

    public int setImage(int morphism, char letter)
            throws IndexOutOfBoundsException, IllegalArgumentException {
        Morphism chosen = morphismAt(morphism);
        int changed = letterNumber(letter);
        if (!chosen.hasLetter(changed) || !chosen.canHaveImage(word, wordLength)) {
            throw new IllegalArgumentException("no such letter or no image");
        }
        chosen.takeImage(changed, word, wordLength);
        return wordLength;
    }

    public int uniform(int morphism) throws IndexOutOfBoundsException {
        return morphismAt(morphism).commonLength();
    }

    public boolean isPrimitive(int morphism) throws IndexOutOfBoundsException {
        return morphismAt(morphism).mixesAll();
    }

    public long grown(int morphism, char letter, int times)
            throws IndexOutOfBoundsException, IllegalArgumentException {
        Morphism chosen = morphismAt(morphism);
        int first = letterNumber(letter);
        if (!chosen.hasLetter(first) || isOutside(times, 0, MOST_GROWN_TIMES)) {
            throw new IllegalArgumentException("no such letter or times");
        }
        return chosen.lengthAfter(first, times);
    }

    public int fixed(int morphism)
            throws IndexOutOfBoundsException, UnsupportedOperationException, IllegalStateException {
        Morphism chosen = morphismAt(morphism);
        if (!chosen.canBeProlonged()) {
            throw new UnsupportedOperationException("it cannot be prolonged");
        }
        refuseNinthSequence();
        sequenceRow[sequenceCount].becomeFixedWord(chosen);
        sequenceCount++;
        return sequenceCount - 1;
    }

    public int slopeNumber(int number) throws IllegalArgumentException, IllegalStateException {
        if (isOutside(number, 1, HIGHEST_SLOPE_NUMBER)) {
            throw new IllegalArgumentException("no number for a slope");
        }
        if (slopeLength >= slopeRow.length) {
            throw new IllegalStateException("the row is full");
        }
        slopeRow[slopeLength] = number;
        slopeLength++;
        return slopeLength;
    }

    public int slope() throws UnsupportedOperationException, IllegalStateException {
        if (slopeLength == 0) {
            throw new UnsupportedOperationException("the row is empty");
        }
        refuseNinthSequence();
        sequenceRow[sequenceCount].becomeSlopeWord(slopeRow, slopeLength);
        slopeLength = 0;
        sequenceCount++;
        return sequenceCount - 1;
    }

    public int automaton(int base, int states) throws IllegalArgumentException, IllegalStateException {
        if (isOutside(base, LOWEST_BASE, HIGHEST_BASE) || isOutside(states, 1, MOST_AUTOMATON_STATES)) {
            throw new IllegalArgumentException("no such base or so many states");
        }
        refuseNinthSequence();
        sequenceRow[sequenceCount].becomeAutomaton(base, states);
        sequenceCount++;
        return sequenceCount - 1;
    }

    public int automatonOf(int morphism)
            throws IndexOutOfBoundsException, UnsupportedOperationException, IllegalStateException {
        Morphism chosen = morphismAt(morphism);
        if (isOutside(chosen.commonLength(), LOWEST_BASE, HIGHEST_BASE)) {
            throw new UnsupportedOperationException("it makes no automaton");
        }
        refuseNinthSequence();
        sequenceRow[sequenceCount].becomeAutomatonOf(chosen);
        sequenceCount++;
        return sequenceCount - 1;
    }

    public int arrow(int sequence, int state, int digit, int to)
            throws IndexOutOfBoundsException, UnsupportedOperationException, IllegalArgumentException {
        Sequence chosen = automatonAt(sequence);
        if (!chosen.hasState(state) || !chosen.hasState(to) || !chosen.hasDigit(digit)) {
            throw new IllegalArgumentException("no such state or digit");
        }
        return chosen.turnArrow(state, digit, to);
    }

    public char give(int sequence, int state, char letter)
            throws IndexOutOfBoundsException, UnsupportedOperationException, IllegalArgumentException {
        Sequence chosen = automatonAt(sequence);
        int given = letterNumber(letter);
        if (!chosen.hasState(state) || given < 0) {
            throw new IllegalArgumentException("no such state or letter");
        }
        return letterSign(chosen.changeLetter(state, given));
    }

    public int sequences() {
        return sequenceCount;
    }

    public char letterAt(int sequence, int place)
            throws IndexOutOfBoundsException, IllegalArgumentException {
        Sequence chosen = sequenceAt(sequence);
        if (isOutside(place, 0, chosen.highestPlace())) {
            throw new IllegalArgumentException("no such place");
        }
        return letterSign(chosen.letterOn(place));
    }

    public int least(int sequence) throws IndexOutOfBoundsException, UnsupportedOperationException {
        return prover.leastStates(automatonAt(sequence));
    }

    public int kernel(int sequence, int depth)
            throws IndexOutOfBoundsException, UnsupportedOperationException, IllegalArgumentException {
        Sequence chosen = automatonAt(sequence);
        if (isOutside(depth, 0, DEEPEST_KERNEL)) {
            throw new IllegalArgumentException("no such depth");
        }
        return pieceCounter.kernelSize(chosen, depth);
    }

    public int digits(char kind, int number) throws IllegalArgumentException {
        if (!numeration.hasKind(kind) || isOutside(number, 0, HIGHEST_NUMBER)) {
            throw new IllegalArgumentException("no such kind or number");
        }
        return numeration.spell(kind, number);
    }

    public int digitAt(char kind, int number, int place) throws IllegalArgumentException {
        if (!numeration.hasKind(kind) || isOutside(number, 0, HIGHEST_NUMBER) || place < 0) {
            throw new IllegalArgumentException("no such kind, number or place");
        }
        return numeration.digitOf(kind, number, place);
    }

    public boolean isLost(int one, int other) throws IllegalArgumentException {
        if (isOutside(one, 0, HIGHEST_HEAP) || isOutside(other, 0, HIGHEST_HEAP)) {
            throw new IllegalArgumentException("no such heap");
        }
        return numeration.areLost(one, other);
    }

    public int equal(int x, int y) throws IllegalArgumentException, IllegalStateException {
        if (!isVariable(x) || !isVariable(y)) {
            throw new IllegalArgumentException("no such variable");
        }
        refuseSeventhFormula();
        return prover.pushEqual(x, y);
    }

    public int less(int x, int y) throws IllegalArgumentException, IllegalStateException {
        if (!isVariable(x) || !isVariable(y)) {
            throw new IllegalArgumentException("no such variable");
        }
        refuseSeventhFormula();
        return prover.pushLess(x, y);
    }

    public int sum(int x, int y, int z) throws IllegalArgumentException, IllegalStateException {
        if (!isVariable(x) || !isVariable(y) || !isVariable(z)) {
            throw new IllegalArgumentException("no such variable");
        }
        refuseSeventhFormula();
        return prover.pushSum(x, y, z);
    }

    public int number(int x, int number) throws IllegalArgumentException, IllegalStateException {
        if (!isVariable(x) || isOutside(number, 0, HIGHEST_TOLD_NUMBER)) {
            throw new IllegalArgumentException("no such variable or number");
        }
        refuseSeventhFormula();
        return prover.pushNumber(x, number);
    }

    public int letterIs(int sequence, int x, char letter)
            throws IndexOutOfBoundsException, UnsupportedOperationException,
            IllegalArgumentException, IllegalStateException {
        Sequence chosen = binaryAutomatonAt(sequence);
        int told = letterNumber(letter);
        if (!isVariable(x) || told < 0) {
            throw new IllegalArgumentException("no such variable or letter");
        }
        refuseSeventhFormula();
        return prover.pushLetter(chosen, x, told);
    }

    public int same(int sequence, int x, int y)
            throws IndexOutOfBoundsException, UnsupportedOperationException,
            IllegalArgumentException, IllegalStateException {
        Sequence chosen = binaryAutomatonAt(sequence);
        if (!isVariable(x) || !isVariable(y)) {
            throw new IllegalArgumentException("no such variable");
        }
        refuseSeventhFormula();
        return prover.pushSame(chosen, x, y);
    }

    public int join(boolean isAnd) throws NoSuchElementException, UnsupportedOperationException {
        refuseFewerFormulas(2);
        if (!prover.mergeTopTwo(isAnd)) {
            throw new UnsupportedOperationException("too many states on the way");
        }
        return prover.size;
    }

    public int not() throws NoSuchElementException {
        refuseFewerFormulas(1);
        return prover.turnTopOver();
    }

    public int exists(int x) throws IllegalArgumentException, NoSuchElementException,
            UnsupportedOperationException {
        return quantify(x, true);
    }

    public int forAll(int x) throws IllegalArgumentException, NoSuchElementException,
            UnsupportedOperationException {
        return quantify(x, false);
    }

    public int drop() throws NoSuchElementException {
        refuseFewerFormulas(1);
        prover.size--;
        return prover.size;
    }

    public int free() throws NoSuchElementException {
        refuseFewerFormulas(1);
        return prover.top().mask;
    }

    public int states() throws NoSuchElementException {
        refuseFewerFormulas(1);
        return prover.top().size;
    }

    public boolean isTrue() throws NoSuchElementException, UnsupportedOperationException {
        refuseFewerFormulas(1);
        if (prover.top().mask != 0) {
            throw new UnsupportedOperationException("it has free variables");
        }
        return prover.topHolds();
    }

    public boolean holds(int a, int b, int c, int d, int e)
            throws IllegalArgumentException, NoSuchElementException {
        if (isOutside(a, 0, HIGHEST_NUMBER) || isOutside(b, 0, HIGHEST_NUMBER)
                || isOutside(c, 0, HIGHEST_NUMBER) || isOutside(d, 0, HIGHEST_NUMBER)
                || isOutside(e, 0, HIGHEST_NUMBER)) {
            throw new IllegalArgumentException("no such number");
        }
        refuseFewerFormulas(1);
        prover.setNumbers(a, b, c, d, e);
        return prover.topHolds();
    }

    public int count(int x, int below) throws IllegalArgumentException, NoSuchElementException {
        if (!isVariable(x) || isOutside(below, 0, HIGHEST_COUNTED)) {
            throw new IllegalArgumentException("no such variable or number");
        }
        refuseFewerFormulas(1);
        return prover.countBelow(x, below);
    }

    public int pieces(int sequence, int length)
            throws IndexOutOfBoundsException, IllegalArgumentException {
        Sequence chosen = sequenceAt(sequence);
        if (isOutside(length, 1, LONGEST_PIECE)) {
            throw new IllegalArgumentException("no such length");
        }
        return pieceCounter.countPieces(chosen, length, false);
    }

    public int piecesByCounts(int sequence, int length)
            throws IndexOutOfBoundsException, IllegalArgumentException {
        Sequence chosen = sequenceAt(sequence);
        if (isOutside(length, 1, LONGEST_COUNTED_PIECE)) {
            throw new IllegalArgumentException("no such length");
        }
        return pieceCounter.countByCounts(chosen, length);
    }

    public int palindromes(int sequence, int length)
            throws IndexOutOfBoundsException, IllegalArgumentException {
        Sequence chosen = sequenceAt(sequence);
        if (isOutside(length, 1, LONGEST_PIECE)) {
            throw new IllegalArgumentException("no such length");
        }
        return pieceCounter.countPieces(chosen, length, true);
    }

    public float exponent(int sequence, int places)
            throws IndexOutOfBoundsException, IllegalArgumentException {
        Sequence chosen = sequenceAt(sequence);
        if (isOutside(places, 1, MOST_EXPONENT_PLACES)) {
            throw new IllegalArgumentException("not so many places");
        }
        return pieceCounter.greatestExponent(chosen, places);
    }

    public int regular(int rank) throws IllegalArgumentException, IllegalStateException {
        if (isOutside(rank, 1, HIGHEST_TOLD_RANK)) {
            throw new IllegalArgumentException("no such rank");
        }
        refuseFifthRegular();
        regulars[regularCount].begin(rank);
        regularCount++;
        return regularCount - 1;
    }

    public int entry(int regular, char part, int row, int column, int value)
            throws IndexOutOfBoundsException, IllegalArgumentException {
        Regular chosen = regularAt(regular);
        if (!chosen.hasRow(part, row) || !chosen.hasColumn(part, column)) {
            throw new IndexOutOfBoundsException("no such row or column");
        }
        if (!chosen.hasPart(part) || isOutside(value, -HIGHEST_ENTRY, HIGHEST_ENTRY)) {
            throw new IllegalArgumentException("no such part or number");
        }
        return chosen.replace(part, row, column, value);
    }

    public int added(int one, int other)
            throws IndexOutOfBoundsException, UnsupportedOperationException, IllegalStateException {
        Regular first = regularAt(one);
        Regular second = regularAt(other);
        if (first.rank + second.rank > HIGHEST_RANK) {
            throw new UnsupportedOperationException("the rank would be too high");
        }
        refuseFifthRegular();
        regulars[regularCount].becomeSum(first, second);
        regularCount++;
        return regularCount - 1;
    }

    public long term(int regular, int place)
            throws IndexOutOfBoundsException, IllegalArgumentException {
        Regular chosen = regularAt(regular);
        if (isOutside(place, 0, HIGHEST_TERM)) {
            throw new IllegalArgumentException("no such place");
        }
        return chosen.termAt(place);
    }

    public int avoiders(int letters, int length)
            throws IllegalArgumentException, NoSuchElementException {
        if (isOutside(letters, 2, 3) || isOutside(length, 0, LONGEST_AVOIDER)) {
            throw new IllegalArgumentException("not so many letters or no such length");
        }
        if (wordLength == 0) {
            throw new NoSuchElementException("the word is empty");
        }
        return patterns.countAvoiders(word, wordLength, letters, length);
    }

    public int command(char letter, char command) throws IllegalArgumentException {
        int told = letterNumber(letter);
        if (told < 0 || !turtle.knows(command)) {
            throw new IllegalArgumentException("no such letter or command");
        }
        return turtle.learn(told, command);
    }

    public int path(int sequence, int places, char what)
            throws IndexOutOfBoundsException, IllegalArgumentException {
        Sequence chosen = sequenceAt(sequence);
        if (isOutside(places, 0, MOST_WALKED_PLACES) || (what != 'x' && what != 'y' && what != 'n')) {
            throw new IllegalArgumentException("not so many places or no such what");
        }
        return turtle.walk(pieceCounter.spellOut(chosen, places), places, what);
    }

    public double meanLetter(int sequence, int places)
            throws IndexOutOfBoundsException, IllegalArgumentException {
        Sequence chosen = sequenceAt(sequence);
        if (isOutside(places, 1, MOST_WALKED_PLACES)) {
            throw new IllegalArgumentException("not so many places");
        }
        return (double) pieceCounter.letterSum(chosen, places) / (double) places;
    }

    public long checksum() {
        long total = 7;
        for (int i = 0; i < sequenceCount; i++) {
            int[] text = pieceCounter.spellOut(sequenceRow[i], CHECKED_PLACES);
            for (int place = 0; place < CHECKED_PLACES; place++) {
                total = 31 * total + text[place];
            }
        }
        return total;
    }

    public boolean isSound() {
        return numeration.digitsTellNumbers() && numeration.lostByMoves() && prover.ignoresNoughts();
    }

    private static boolean isOutside(int number, int lowest, int highest) {
        return number < lowest || number > highest;
    }

    private static boolean isVariable(int x) {
        return x >= 0 && x < VARIABLES;
    }

    /** The letter as a number from 0, -1 if there is none. */
    private static int letterNumber(char letter) {
        return letter >= 'a' && letter < 'a' + LETTERS ? letter - 'a' : -1;
    }

    private static char letterSign(int letter) {
        return (char) ('a' + letter);
    }

    private Morphism morphismAt(int morphism) throws IndexOutOfBoundsException {
        if (isOutside(morphism, 0, morphismCount - 1)) {
            throw new IndexOutOfBoundsException("no such morphism");
        }
        return morphisms[morphism];
    }

    private Sequence sequenceAt(int sequence) throws IndexOutOfBoundsException {
        if (isOutside(sequence, 0, sequenceCount - 1)) {
            throw new IndexOutOfBoundsException("no such sequence");
        }
        return sequenceRow[sequence];
    }

    private Sequence automatonAt(int sequence)
            throws IndexOutOfBoundsException, UnsupportedOperationException {
        Sequence chosen = sequenceAt(sequence);
        if (chosen.isByLetters()) {
            throw new UnsupportedOperationException("it is one by letters");
        }
        return chosen;
    }

    private Sequence binaryAutomatonAt(int sequence)
            throws IndexOutOfBoundsException, UnsupportedOperationException {
        Sequence chosen = sequenceAt(sequence);
        if (chosen.base != 2) {
            throw new UnsupportedOperationException("it is no automaton of base 2");
        }
        return chosen;
    }

    private Regular regularAt(int regular) throws IndexOutOfBoundsException {
        if (isOutside(regular, 0, regularCount - 1)) {
            throw new IndexOutOfBoundsException("no such sequence of numbers");
        }
        return regulars[regular];
    }

    private void refuseNinthSequence() throws IllegalStateException {
        if (sequenceCount >= sequenceRow.length) {
            throw new IllegalStateException("no more sequences");
        }
    }

    private void refuseFifthRegular() throws IllegalStateException {
        if (regularCount >= regulars.length) {
            throw new IllegalStateException("no more sequences of numbers");
        }
    }

    private void refuseSeventhFormula() throws IllegalStateException {
        if (prover.size >= MOST_FORMULAS) {
            throw new IllegalStateException("the stack is full");
        }
    }

    private void refuseFewerFormulas(int needed) throws NoSuchElementException {
        if (prover.size < needed) {
            throw new NoSuchElementException("too few formulas");
        }
    }

    private int quantify(int x, boolean isExists)
            throws IllegalArgumentException, NoSuchElementException, UnsupportedOperationException {
        if (!isVariable(x)) {
            throw new IllegalArgumentException("no such variable");
        }
        refuseFewerFormulas(1);
        if (!prover.quantifyTop(x, isExists)) {
            throw new UnsupportedOperationException("too many states on the way");
        }
        return prover.top().size;
    }

    /** Gives keys numbers from 0 in the order in which they come; its rows are used again and again. */
    private static final class Keys {
        private static final int MOST = 1024;
        private static final int PARTS = 4;
        private static final int SLOTS = 4096;

        private final long[] parts;
        private final int[] numbers;
        private final int[] rounds;
        private int round;
        private int size;

        Keys() {
            parts = new long[MOST * PARTS];
            numbers = new int[SLOTS];
            rounds = new int[SLOTS];
        }

        /** A slot of an earlier round counts as empty, so that no row has to be filled anew. */
        void clear() {
            round++;
            size = 0;
        }

        int put(long key) {
            return putFour(key, 0, 0, 0);
        }

        /** The number of the key, -1 if it is new and there is no room for it. */
        int putFour(long a, long b, long c, long d) {
            int slot = firstSlot(a, b, c, d);
            for (int tries = 0; tries < SLOTS; tries++) {
                if (rounds[slot] != round) {
                    return append(slot, a, b, c, d);
                }
                int at = numbers[slot] * PARTS;
                if (parts[at] == a && parts[at + 1] == b && parts[at + 2] == c && parts[at + 3] == d) {
                    return numbers[slot];
                }
                slot = (slot + 1) & (SLOTS - 1);
            }
            return -1;
        }

        /** The part of a key that was put. */
        long part(int number, int part) {
            return parts[number * PARTS + part];
        }

        private static int firstSlot(long a, long b, long c, long d) {
            long mixed = ((a * 31 + b) * 31 + c) * 31 + d;
            return (int) ((mixed * 0x9E3779B97F4A7C15L) >>> 52) & (SLOTS - 1);
        }

        private int append(int slot, long a, long b, long c, long d) {
            if (size >= MOST) {
                return -1;
            }
            int at = size * PARTS;
            parts[at] = a;
            parts[at + 1] = b;
            parts[at + 2] = c;
            parts[at + 3] = d;
            rounds[slot] = round;
            numbers[slot] = size;
            size++;
            return size - 1;
        }
    }

    /** An image for each of some letters. */
    private static final class Morphism {
        private int letters;
        private final int[] lengths;
        private final int[] images;
        private final int[] having;
        private final int[] reached;
        private final long[] sizes;
        private final long[] nextSizes;

        Morphism() {
            lengths = new int[LETTERS];
            images = new int[LETTERS * LONGEST_IMAGE];
            having = new int[LETTERS];
            reached = new int[LETTERS];
            sizes = new long[LETTERS];
            nextSizes = new long[LETTERS];
        }

        void begin(int letterCount) {
            letters = letterCount;
            for (int letter = 0; letter < LETTERS; letter++) {
                lengths[letter] = 1;
                images[letter * LONGEST_IMAGE] = letter;
            }
        }

        boolean hasLetter(int letter) {
            return letter >= 0 && letter < letters;
        }

        boolean canHaveImage(int[] word, int length) {
            if (length < 1 || length > LONGEST_IMAGE || length > word.length) {
                return false;
            }
            for (int i = 0; i < length; i++) {
                if (!hasLetter(word[i])) {
                    return false;
                }
            }
            return true;
        }

        void takeImage(int letter, int[] word, int length) {
            for (int i = 0; i < length; i++) {
                images[letter * LONGEST_IMAGE + i] = word[i];
            }
            lengths[letter] = length;
        }

        int imageLetter(int letter, int place) {
            return images[letter * LONGEST_IMAGE + place];
        }

        /** How long all images are, 0 if they are not as long as each other. */
        int commonLength() {
            for (int letter = 1; letter < letters; letter++) {
                if (lengths[letter] != lengths[0]) {
                    return 0;
                }
            }
            return lengths[0];
        }

        boolean canBeProlonged() {
            return images[0] == 0 && lengths[0] >= 2;
        }

        /** Whether each letter comes to have each one after the same number of times. */
        boolean mixesAll() {
            for (int letter = 0; letter < letters; letter++) {
                having[letter] = lettersInImage(letter);
                reached[letter] = 1 << letter;
            }
            for (int times = 1; times <= MOST_PRIMITIVE_TIMES; times++) {
                if (reachOn()) {
                    return true;
                }
            }
            return false;
        }

        long lengthAfter(int letter, int times) {
            for (int i = 0; i < letters; i++) {
                sizes[i] = 1;
            }
            for (int time = 0; time < times; time++) {
                growSizes();
            }
            return sizes[letter];
        }

        private int lettersInImage(int letter) {
            int found = 0;
            for (int i = 0; i < lengths[letter]; i++) {
                found |= 1 << imageLetter(letter, i);
            }
            return found;
        }

        private boolean reachOn() {
            boolean all = true;
            for (int letter = 0; letter < letters; letter++) {
                int found = 0;
                for (int other = 0; other < letters; other++) {
                    if ((reached[letter] >> other & 1) != 0) {
                        found |= having[other];
                    }
                }
                reached[letter] = found;
                all = all && found == (1 << letters) - 1;
            }
            return all;
        }

        private void growSizes() {
            for (int letter = 0; letter < letters; letter++) {
                long size = 0;
                for (int i = 0; i < lengths[letter]; i++) {
                    size += sizes[imageLetter(letter, i)];
                }
                nextSizes[letter] = size;
            }
            for (int letter = 0; letter < letters; letter++) {
                sizes[letter] = nextSizes[letter];
            }
        }
    }

    /** A sequence of letters: told by its text, or by an automaton that reads the place. */
    private static final class Sequence {
        private static final int MOST_DIGITS = 31;

        private int base;
        private int states;
        private final int[] arrows;
        private final int[] gives;
        private final int[] text;
        private final int[] placeDigits;

        Sequence() {
            arrows = new int[MOST_AUTOMATON_STATES * HIGHEST_BASE];
            gives = new int[MOST_AUTOMATON_STATES];
            text = new int[TEXT_PLACES];
            placeDigits = new int[MOST_DIGITS];
        }

        boolean isByLetters() {
            return base == 0;
        }

        boolean hasState(int state) {
            return state >= 0 && state < states;
        }

        boolean hasDigit(int digit) {
            return digit >= 0 && digit < base;
        }

        int highestPlace() {
            return isByLetters() ? TEXT_PLACES - 1 : HIGHEST_PLACE;
        }

        /** The image of a has two letters or more and none is empty, so the end stays ahead of what is read. */
        void becomeFixedWord(Morphism morphism) {
            base = 0;
            int end = appendImage(morphism, 0, 0);
            for (int read = 1; read < end && end < TEXT_PLACES; read++) {
                end = appendImage(morphism, text[read], end);
            }
        }

        /** Each word begins with the last one, so the text itself holds both words that are needed. */
        void becomeSlopeWord(int[] row, int rowLength) {
            base = 0;
            int length = 0;
            for (int i = 0; i < row[0]; i++) {
                text[length] = 0;
                length++;
            }
            text[length] = 1;
            length++;
            int lengthBefore = 1;
            int told = 0;
            for (int turn = 1; turn < TEXT_PLACES && length < TEXT_PLACES; turn++) {
                told = told + 1 < rowLength ? told + 1 : 0;
                int end = length;
                for (int i = 1; i < row[told]; i++) {
                    end = appendBeginning(length, end);
                }
                end = appendBeginning(lengthBefore, end);
                lengthBefore = length;
                length = end;
            }
        }

        void becomeAutomaton(int newBase, int newStates) {
            base = newBase;
            states = newStates;
            for (int state = 0; state < states; state++) {
                gives[state] = 0;
                for (int digit = 0; digit < base; digit++) {
                    arrows[state * HIGHEST_BASE + digit] = state;
                }
            }
        }

        void becomeAutomatonOf(Morphism morphism) {
            becomeAutomaton(morphism.commonLength(), morphism.letters);
            for (int state = 0; state < states; state++) {
                gives[state] = state;
                for (int digit = 0; digit < base; digit++) {
                    arrows[state * HIGHEST_BASE + digit] = morphism.imageLetter(state, digit);
                }
            }
        }

        int turnArrow(int state, int digit, int to) {
            int before = arrows[state * HIGHEST_BASE + digit];
            arrows[state * HIGHEST_BASE + digit] = to;
            return before;
        }

        int changeLetter(int state, int letter) {
            int before = gives[state];
            gives[state] = letter;
            return before;
        }

        int letterOn(int place) {
            if (isByLetters()) {
                return text[place];
            }
            int length = 0;
            for (int rest = place; rest > 0 && length < MOST_DIGITS; rest /= base) {
                placeDigits[length] = rest % base;
                length++;
            }
            int state = 0;
            for (int i = length - 1; i >= 0; i--) {
                state = arrows[state * HIGHEST_BASE + placeDigits[i]];
            }
            return gives[state];
        }

        /** Writes the letters at the first places; the state at a place follows from that at its base-th part. */
        void spellInto(int[] out, int places) {
            if (isByLetters()) {
                for (int place = 0; place < places && place < TEXT_PLACES; place++) {
                    out[place] = text[place];
                }
                return;
            }
            for (int place = 0; place < places; place++) {
                out[place] = place == 0 ? 0 : arrows[out[place / base] * HIGHEST_BASE + place % base];
            }
            for (int place = 0; place < places; place++) {
                out[place] = gives[out[place]];
            }
        }

        /** In base 2, with a state 0 ahead of all others that waits for the first 1, whatever noughts are ahead. */
        int waitingStep(int state, int digit) {
            if (state == 0) {
                return digit == 0 ? 0 : arrows[1] + 1;
            }
            return arrows[(state - 1) * HIGHEST_BASE + digit] + 1;
        }

        int waitingLetter(int state) {
            return state == 0 ? gives[0] : gives[state - 1];
        }

        private int appendImage(Morphism morphism, int letter, int end) {
            int length = end;
            for (int i = 0; i < morphism.lengths[letter] && length < TEXT_PLACES; i++) {
                text[length] = morphism.imageLetter(letter, i);
                length++;
            }
            return length;
        }

        private int appendBeginning(int size, int end) {
            int length = end;
            for (int i = 0; i < size && length < TEXT_PLACES; i++) {
                text[length] = text[i];
                length++;
            }
            return length;
        }
    }

    /** Digits of numbers by each kind, and the game's lost positions. */
    private static final class Numeration {
        private static final int MOST_DIGITS = 32;
        private static final int CHECKED_NUMBERS = 200;
        private static final int CHECKED_HEAPS = 10;

        private final int[] row;
        private final int[] goldenNumbers;
        private final int[] lostWith;

        Numeration() {
            row = new int[MOST_DIGITS];
            goldenNumbers = new int[MOST_DIGITS];
            goldenNumbers[0] = 1;
            goldenNumbers[1] = 2;
            for (int i = 2; i < MOST_DIGITS; i++) {
                goldenNumbers[i] = goldenNumbers[i - 1] + goldenNumbers[i - 2];
            }
            lostWith = lostPairs();
        }

        boolean hasKind(char kind) {
            return kind == '2' || kind == '3' || kind == '4' || kind == 'f' || kind == '-';
        }

        /** Writes the digits of a number, 0 or more, into the row and tells how many they are. */
        int spell(char kind, int number) {
            if (kind == 'f') {
                return spellGolden(number);
            }
            return kind == '-' ? spellNegative(number) : spellBase(kind - '0', number);
        }

        int digitOf(char kind, int number, int place) {
            int length = spell(kind, number);
            return place < length ? row[place] : 0;
        }

        boolean areLost(int one, int other) {
            return lostWith[one] == other;
        }

        boolean digitsTellNumbers() {
            return tellsNumbers('2') && tellsNumbers('3') && tellsNumbers('4')
                    && tellsNumbers('f') && tellsNumbers('-');
        }

        boolean lostByMoves() {
            for (int one = 0; one < CHECKED_HEAPS; one++) {
                for (int other = 0; other < CHECKED_HEAPS; other++) {
                    if (areLost(one, other) == canMoveToLost(one, other)) {
                        return false;
                    }
                }
            }
            return true;
        }

        /** The least heap that is in no pair yet goes with one that is larger by one more each time. */
        private static int[] lostPairs() {
            int[] pairs = new int[HIGHEST_HEAP + 1];
            Arrays.fill(pairs, -1);
            int difference = 0;
            for (int heap = 0; heap < pairs.length; heap++) {
                if (pairs[heap] < 0) {
                    int larger = heap + difference;
                    pairs[heap] = larger;
                    if (larger < pairs.length) {
                        pairs[larger] = heap;
                    }
                    difference++;
                }
            }
            return pairs;
        }

        private int spellBase(int base, int number) {
            if (base < LOWEST_BASE) {
                return 0;
            }
            int length = 0;
            for (int rest = number; rest > 0 && length < MOST_DIGITS; rest /= base) {
                row[length] = rest % base;
                length++;
            }
            return length;
        }

        private int spellNegative(int number) {
            int length = 0;
            for (int rest = number; rest != 0 && length < MOST_DIGITS; rest = -(rest >> 1)) {
                row[length] = rest & 1;
                length++;
            }
            return length;
        }

        private int spellGolden(int number) {
            int length = 0;
            int rest = number;
            for (int place = MOST_DIGITS - 1; place >= 0; place--) {
                row[place] = goldenNumbers[place] <= rest ? 1 : 0;
                if (row[place] == 1) {
                    rest -= goldenNumbers[place];
                    length = Math.max(length, place + 1);
                }
            }
            return length;
        }

        private boolean tellsNumbers(char kind) {
            for (int number = 0; number < CHECKED_NUMBERS; number++) {
                int length = spell(kind, number);
                long told = 0;
                long power = 1;
                for (int place = 0; place < length; place++) {
                    told += row[place] * (kind == 'f' ? goldenNumbers[place] : power);
                    power *= kind == '-' ? -2 : kind - '0';
                }
                if (told != number) {
                    return false;
                }
            }
            return true;
        }

        private boolean canMoveToLost(int one, int other) {
            for (int taken = 1; taken <= Math.max(one, other); taken++) {
                if (taken <= one && areLost(one - taken, other)
                        || taken <= other && areLost(one, other - taken)
                        || taken <= one && taken <= other && areLost(one - taken, other - taken)) {
                    return true;
                }
            }
            return false;
        }
    }

    /** An automaton that begins in the state 0 and reads signs: a bit for each variable, or a digit. */
    private static final class Formula {
        private int mask;
        private int size;
        private int signCount;
        private final int[] signs;
        private final int[] next;
        private final int[] gives;

        Formula() {
            signs = new int[SIGNS];
            next = new int[MOST_STATES * SIGNS];
            gives = new int[MOST_STATES];
        }

        void begin(int variables, int newSize) {
            mask = variables & (SIGNS - 1);
            size = newSize;
            signCount = 0;
            for (int sign = 0; sign < SIGNS; sign++) {
                if ((sign & ~mask) == 0) {
                    signs[signCount] = sign;
                    signCount++;
                }
            }
        }

        void lead(int state, int sign, int to) {
            next[state * SIGNS + sign] = to;
        }

        /** What is no variable of this one makes no difference. */
        int after(int state, int sign) {
            return next[state * SIGNS + (sign & mask)];
        }
    }

    /** Finds the states of an automaton that are met, and which of them are alike. */
    private static final class Reducer {
        private final Keys keys;
        private final int[] order;
        private int met;
        private final int[] classes;
        private final int[] fresh;

        Reducer(Keys shared) {
            keys = shared;
            order = new int[MOST_STATES];
            classes = new int[MOST_STATES];
            fresh = new int[MOST_STATES];
        }

        /** Numbers the classes by their first state in the order, and tells how many they are. */
        int classify(Formula raw) {
            findMet(raw);
            keys.clear();
            for (int i = 0; i < met; i++) {
                classes[order[i]] = keys.putFour(raw.gives[order[i]], 0, 0, 0);
            }
            int found = keys.size;
            for (int round = 0; round < met && found < met; round++) {
                int before = found;
                for (int i = 0; i < raw.signCount; i++) {
                    found = split(raw, raw.signs[i]);
                }
                if (found == before) {
                    break;
                }
            }
            return found;
        }

        /** Each class becomes a state; the beginning is the first in the order, so that its class is the state 0. */
        void writeClasses(Formula raw, Formula out, int found) {
            out.begin(raw.mask, found);
            int written = 0;
            for (int i = 0; i < met; i++) {
                int state = order[i];
                if (classes[state] == written) {
                    copyState(raw, state, out, written);
                    written++;
                }
            }
        }

        private void copyState(Formula raw, int state, Formula out, int to) {
            out.gives[to] = raw.gives[state];
            for (int i = 0; i < raw.signCount; i++) {
                int sign = raw.signs[i];
                out.lead(to, sign, classes[raw.after(state, sign)]);
            }
        }

        private void findMet(Formula raw) {
            Arrays.fill(classes, -1);
            classes[0] = 0;
            order[0] = 0;
            met = 1;
            for (int i = 0; i < met && i < MOST_STATES; i++) {
                for (int j = 0; j < raw.signCount; j++) {
                    int to = raw.after(order[i], raw.signs[j]);
                    if (classes[to] < 0) {
                        classes[to] = 0;
                        order[met] = to;
                        met++;
                    }
                }
            }
        }

        private int split(Formula raw, int sign) {
            keys.clear();
            for (int i = 0; i < met; i++) {
                int state = order[i];
                fresh[state] = keys.putFour(classes[state], classes[raw.after(state, sign)], 0, 0);
            }
            for (int i = 0; i < met; i++) {
                classes[order[i]] = fresh[order[i]];
            }
            return keys.size;
        }
    }

    /** The formulas on the stack, and the rows in which new ones are made. */
    private static final class Prover {
        private static final int SET_PARTS = 4;

        private final Keys keys;
        private final Reducer reducer;
        private final Formula raw;
        private final Formula[] stack;
        private int size;
        private final int[] numbers;
        private final int[] behind;
        private final int[] members;
        private int memberCount;
        private final long[] set;

        Prover(Keys shared) {
            keys = shared;
            reducer = new Reducer(shared);
            raw = new Formula();
            stack = new Formula[MOST_FORMULAS];
            for (int i = 0; i < stack.length; i++) {
                stack[i] = new Formula();
            }
            numbers = new int[VARIABLES];
            behind = new int[HIGHEST_COUNTED];
            members = new int[MOST_STATES];
            set = new long[SET_PARTS];
        }

        /** Only asked for when there is a formula. */
        Formula top() {
            return stack[Math.max(size - 1, 0)];
        }

        int pushEqual(int x, int y) {
            raw.begin(1 << x | 1 << y, 2);
            raw.gives[0] = 1;
            raw.gives[1] = 0;
            for (int i = 0; i < raw.signCount; i++) {
                int sign = raw.signs[i];
                raw.lead(0, sign, bit(sign, x) == bit(sign, y) ? 0 : 1);
                raw.lead(1, sign, 1);
            }
            return pushRaw();
        }

        /** State 0: alike so far, 1: less, 2: more. */
        int pushLess(int x, int y) {
            raw.begin(1 << x | 1 << y, 3);
            raw.gives[0] = 0;
            raw.gives[1] = 1;
            raw.gives[2] = 0;
            for (int i = 0; i < raw.signCount; i++) {
                int sign = raw.signs[i];
                int difference = bit(sign, y) - bit(sign, x);
                raw.lead(0, sign, difference == 0 ? 0 : difference > 0 ? 1 : 2);
                raw.lead(1, sign, 1);
                raw.lead(2, sign, 2);
            }
            return pushRaw();
        }

        /** The states 0 and 1 are what z has more than x and y so far; any other difference stays one. */
        int pushSum(int x, int y, int z) {
            raw.begin(1 << x | 1 << y | 1 << z, 3);
            raw.gives[0] = 1;
            raw.gives[1] = 0;
            raw.gives[2] = 0;
            for (int i = 0; i < raw.signCount; i++) {
                int sign = raw.signs[i];
                for (int more = 0; more < 2; more++) {
                    int now = 2 * more + bit(sign, z) - bit(sign, x) - bit(sign, y);
                    raw.lead(more, sign, now == 0 || now == 1 ? now : 2);
                }
                raw.lead(2, sign, 2);
            }
            return pushRaw();
        }

        /** The states up to the number are what was read so far; the one behind is too much. */
        int pushNumber(int x, int number) {
            int tooMuch = number + 1;
            raw.begin(1 << x, tooMuch + 1);
            for (int state = 0; state <= tooMuch; state++) {
                raw.gives[state] = state == number ? 1 : 0;
                for (int i = 0; i < raw.signCount; i++) {
                    int sign = raw.signs[i];
                    raw.lead(state, sign, Math.min(2 * state + bit(sign, x), tooMuch));
                }
            }
            return pushRaw();
        }

        int pushLetter(Sequence sequence, int x, int letter) {
            raw.begin(1 << x, sequence.states + 1);
            for (int state = 0; state < raw.size; state++) {
                raw.gives[state] = sequence.waitingLetter(state) == letter ? 1 : 0;
                for (int i = 0; i < raw.signCount; i++) {
                    int sign = raw.signs[i];
                    raw.lead(state, sign, sequence.waitingStep(state, bit(sign, x)));
                }
            }
            return pushRaw();
        }

        int pushSame(Sequence sequence, int x, int y) {
            int each = sequence.states + 1;
            raw.begin(1 << x | 1 << y, each * each);
            for (int one = 0; one < each; one++) {
                for (int other = 0; other < each; other++) {
                    int state = one * each + other;
                    raw.gives[state] = sequence.waitingLetter(one) == sequence.waitingLetter(other) ? 1 : 0;
                    for (int i = 0; i < raw.signCount; i++) {
                        int sign = raw.signs[i];
                        raw.lead(state, sign, sequence.waitingStep(one, bit(sign, x)) * each
                                + sequence.waitingStep(other, bit(sign, y)));
                    }
                }
            }
            return pushRaw();
        }

        /** False if it is refused; then nothing has changed. Only asked for when there are two. */
        boolean mergeTopTwo(boolean isAnd) {
            Formula one = stack[Math.max(size - 2, 0)];
            Formula other = top();
            raw.begin(one.mask | other.mask, 0);
            keys.clear();
            keys.putFour(0, 0, 0, 0);
            for (int pair = 0; pair < keys.size && pair < MOST_STATES; pair++) {
                int p = (int) keys.part(pair, 0);
                int q = (int) keys.part(pair, 1);
                int both = one.gives[p] + other.gives[q];
                raw.gives[pair] = both >= (isAnd ? 2 : 1) ? 1 : 0;
                for (int i = 0; i < raw.signCount; i++) {
                    int sign = raw.signs[i];
                    int to = keys.putFour(one.after(p, sign), other.after(q, sign), 0, 0);
                    if (to < 0 || to >= MOST_STATES) {
                        return false;
                    }
                    raw.lead(pair, sign, to);
                }
            }
            raw.size = keys.size;
            reducer.writeClasses(raw, one, reducer.classify(raw));
            size--;
            return true;
        }

        int turnTopOver() {
            Formula changed = top();
            for (int state = 0; state < changed.size; state++) {
                changed.gives[state] = 1 - changed.gives[state];
            }
            return changed.size;
        }

        /** False if it is refused; then nothing has changed. */
        boolean quantifyTop(int x, boolean isExists) {
            Formula changed = top();
            raw.begin(changed.mask & ~(1 << x), 0);
            keys.clear();
            collectBeginning(changed, 1 << x);
            putSet();
            for (int number = 0; number < keys.size && number < MOST_STATES; number++) {
                listMembers(number, changed.size);
                raw.gives[number] = membersTell(changed, isExists);
                for (int i = 0; i < raw.signCount; i++) {
                    int sign = raw.signs[i];
                    collectSteps(changed, sign, sign | 1 << x);
                    int to = putSet();
                    if (to < 0 || to >= MOST_STATES) {
                        return false;
                    }
                    raw.lead(number, sign, to);
                }
            }
            raw.size = keys.size;
            reducer.writeClasses(raw, changed, reducer.classify(raw));
            return true;
        }

        void setNumbers(int a, int b, int c, int d, int e) {
            numbers[0] = a;
            numbers[1] = b;
            numbers[2] = c;
            numbers[3] = d;
            numbers[4] = e;
        }

        /** Reads the numbers that were set; without variables it makes no difference which they are. */
        boolean topHolds() {
            Formula read = top();
            int state = 0;
            for (int place = READ_PLACES - 1; place >= 0; place--) {
                int sign = 0;
                for (int x = 0; x < VARIABLES; x++) {
                    sign |= (numbers[x] >> place & 1) << x;
                }
                state = read.after(state, sign);
            }
            return read.gives[state] == 1;
        }

        /** The state behind a number follows from that behind its half; noughts lead from the beginning to itself. */
        int countBelow(int x, int below) {
            Formula read = top();
            int found = 0;
            for (int number = 0; number < below && number < HIGHEST_COUNTED; number++) {
                behind[number] = number == 0 ? 0 : read.after(behind[number / 2], number % 2 << x);
                found += read.gives[behind[number]];
            }
            return found;
        }

        int leastStates(Sequence automaton) {
            raw.begin(HIGHEST_BASE - 1, automaton.states);
            raw.signCount = automaton.base;
            for (int state = 0; state < automaton.states; state++) {
                raw.gives[state] = automaton.gives[state];
                for (int digit = 0; digit < automaton.base; digit++) {
                    raw.lead(state, digit, automaton.arrows[state * HIGHEST_BASE + digit]);
                }
            }
            return reducer.classify(raw);
        }

        /** No two states are alike, so a nought of all variables must lead from the beginning to itself. */
        boolean ignoresNoughts() {
            for (int i = 0; i < size; i++) {
                if (stack[i].after(0, 0) != 0) {
                    return false;
                }
            }
            return true;
        }

        private static int bit(int sign, int x) {
            return sign >> x & 1;
        }

        private int pushRaw() {
            Formula pushed = stack[Math.min(size, MOST_FORMULAS - 1)];
            reducer.writeClasses(raw, pushed, reducer.classify(raw));
            size = Math.min(size + 1, MOST_FORMULAS);
            return size;
        }

        private void clearSet() {
            Arrays.fill(set, 0);
        }

        private boolean addToSet(int state) {
            long flag = 1L << (state & 63);
            boolean isNew = (set[state >> 6] & flag) == 0;
            set[state >> 6] |= flag;
            return isNew;
        }

        private int putSet() {
            return keys.putFour(set[0], set[1], set[2], set[3]);
        }

        /** All states to which the beginning leads while all other variables are 0. */
        private void collectBeginning(Formula read, int flag) {
            clearSet();
            addToSet(0);
            members[0] = 0;
            memberCount = 1;
            for (int i = 0; i < memberCount && i < MOST_STATES; i++) {
                for (int digit = 0; digit < 2; digit++) {
                    int to = read.after(members[i], digit * flag);
                    if (addToSet(to)) {
                        members[memberCount] = to;
                        memberCount++;
                    }
                }
            }
        }

        private void collectSteps(Formula read, int signWithNought, int signWithOne) {
            clearSet();
            for (int i = 0; i < memberCount; i++) {
                addToSet(read.after(members[i], signWithNought));
                addToSet(read.after(members[i], signWithOne));
            }
        }

        private void listMembers(int number, int stateCount) {
            memberCount = 0;
            for (int state = 0; state < stateCount; state++) {
                if ((keys.part(number, state >> 6) >>> (state & 63) & 1) != 0) {
                    members[memberCount] = state;
                    memberCount++;
                }
            }
        }

        private int membersTell(Formula read, boolean isExists) {
            int holding = 0;
            for (int i = 0; i < memberCount; i++) {
                holding += read.gives[members[i]];
            }
            return holding >= (isExists ? 1 : memberCount) ? 1 : 0;
        }
    }

    /** Counts of pieces of a sequence. */
    private static final class Pieces {
        private static final int MOST_PLACES = 8192;
        private static final int COUNT_STEP = 64;

        private final Keys keys;
        private final int[] text;

        Pieces(Keys shared) {
            keys = shared;
            text = new int[MOST_PLACES];
        }

        /** The row with the letters at the first places, up to the next call. */
        int[] spellOut(Sequence sequence, int places) {
            sequence.spellInto(text, Math.min(places, MOST_PLACES));
            return text;
        }

        int kernelSize(Sequence sequence, int depth) {
            int power = 1;
            for (int e = 0; e < depth; e++) {
                power *= sequence.base;
            }
            spellOut(sequence, power * KERNEL_PLACES);
            keys.clear();
            power = 1;
            for (int e = 0; e <= depth; e++) {
                for (int rest = 0; rest < power; rest++) {
                    keys.put(packed(rest, power, KERNEL_PLACES));
                }
                power *= sequence.base;
            }
            return keys.size;
        }

        int countPieces(Sequence sequence, int length, boolean onlyPalindromes) {
            spellOut(sequence, PIECE_PLACES);
            keys.clear();
            for (int from = 0; from + length <= PIECE_PLACES; from++) {
                if (!onlyPalindromes || isPalindrome(from, length)) {
                    keys.put(packed(from, 1, length));
                }
            }
            return keys.size;
        }

        int countByCounts(Sequence sequence, int length) {
            spellOut(sequence, PIECE_PLACES);
            keys.clear();
            long counts = 0;
            for (int place = 0; place < PIECE_PLACES; place++) {
                counts += countUnit(text[place]);
                if (place >= length) {
                    counts -= countUnit(text[place - length]);
                }
                if (place >= length - 1) {
                    keys.put(counts);
                }
            }
            return keys.size;
        }

        /** A longer period never makes a greater exponent, so that all periods may be looked at. */
        float greatestExponent(Sequence sequence, int places) {
            spellOut(sequence, places);
            int bestLength = 1;
            int bestPeriod = 1;
            for (int period = 1; period < places; period++) {
                int alike = 0;
                for (int place = period; place < places; place++) {
                    alike = text[place] == text[place - period] ? alike + 1 : 0;
                    if ((alike + period) * bestPeriod > bestLength * period) {
                        bestLength = alike + period;
                        bestPeriod = period;
                    }
                }
            }
            return (float) bestLength / (float) bestPeriod;
        }

        int letterSum(Sequence sequence, int places) {
            spellOut(sequence, places);
            int total = 0;
            for (int place = 0; place < places; place++) {
                total += text[place];
            }
            return total;
        }

        /** At most 32 letters, of two bits each, fill one long. */
        private long packed(int from, int step, int letters) {
            long code = 0;
            for (int i = 0; i < letters; i++) {
                code = code * LETTERS + text[from + i * step];
            }
            return code;
        }

        private boolean isPalindrome(int from, int length) {
            for (int i = 0; i < length / 2; i++) {
                if (text[from + i] != text[from + length - 1 - i]) {
                    return false;
                }
            }
            return true;
        }

        /** At most 60 of each letter are counted, so that the counts do not run into each other. */
        private static long countUnit(int letter) {
            long unit = 1;
            for (int i = 0; i < letter; i++) {
                unit *= COUNT_STEP;
            }
            return unit;
        }
    }

    /** A sequence of numbers by a row, two matrices and a column, all in one row of entries. */
    private static final class Regular {
        private static final int MATRIX = HIGHEST_RANK * HIGHEST_RANK;
        private static final int COLUMN_START = HIGHEST_RANK + 2 * MATRIX;
        private static final int TERM_PLACES = 30;

        private int rank;
        private final int[] entries;
        private final long[] now;
        private final long[] later;

        Regular() {
            entries = new int[COLUMN_START + HIGHEST_RANK];
            now = new long[HIGHEST_RANK];
            later = new long[HIGHEST_RANK];
        }

        void begin(int newRank) {
            rank = newRank;
        }

        boolean hasPart(char part) {
            return part == 'l' || part == '0' || part == '1' || part == 'r';
        }

        boolean hasRow(char part, int row) {
            return row >= 0 && row < (part == 'l' ? 1 : rank);
        }

        boolean hasColumn(char part, int column) {
            return column >= 0 && column < (part == 'r' ? 1 : rank);
        }

        int replace(char part, int row, int column, int value) {
            int at = place(part, row, column);
            int before = entries[at];
            entries[at] = value;
            return before;
        }

        /** Both stand side by side: the matrices have noughts where one meets the other. */
        void becomeSum(Regular first, Regular second) {
            rank = first.rank + second.rank;
            copyFrom(first, 0);
            copyFrom(second, first.rank);
        }

        long termAt(int number) {
            for (int i = 0; i < rank; i++) {
                now[i] = entries[place('l', 0, i)];
            }
            boolean begun = false;
            for (int place = TERM_PLACES - 1; place >= 0; place--) {
                int digit = number >> place & 1;
                begun = begun || digit == 1;
                if (begun) {
                    timesMatrix(digit == 1 ? '1' : '0');
                }
            }
            long total = 0;
            for (int i = 0; i < rank; i++) {
                total += now[i] * entries[place('r', i, 0)];
            }
            return total;
        }

        private static int place(char part, int row, int column) {
            if (part == 'l') {
                return column;
            }
            if (part == 'r') {
                return COLUMN_START + row;
            }
            int start = part == '0' ? HIGHEST_RANK : HIGHEST_RANK + MATRIX;
            return start + row * HIGHEST_RANK + column;
        }

        private void copyFrom(Regular other, int shift) {
            for (int i = 0; i < other.rank; i++) {
                entries[place('l', 0, shift + i)] = other.entries[place('l', 0, i)];
                entries[place('r', shift + i, 0)] = other.entries[place('r', i, 0)];
                for (int j = 0; j < other.rank; j++) {
                    entries[place('0', shift + i, shift + j)] = other.entries[place('0', i, j)];
                    entries[place('1', shift + i, shift + j)] = other.entries[place('1', i, j)];
                }
            }
        }

        private void timesMatrix(char part) {
            for (int column = 0; column < rank; column++) {
                long total = 0;
                for (int row = 0; row < rank; row++) {
                    total += now[row] * entries[place(part, row, column)];
                }
                later[column] = total;
            }
            for (int i = 0; i < rank; i++) {
                now[i] = later[i];
            }
        }
    }

    /** Counts words that do not have a pattern; a word is kept as one number, its last letter in the lowest bits. */
    private static final class Patterns {
        private static final int LETTER_BITS = 2;
        private static final int MOST_SHAPES = 256;
        private static final int MOST_LINKS = 1024;
        private static final int SHIFT_BITS = 5;
        private static final int SHIFT_MASK = 31;

        private final int[] pattern;
        private int patternLength;
        private final int[] uses;
        private final int[] totals;
        private final int[] linkEnds;
        private int shapeCount;
        private final int[] links;
        private int linkCount;
        private final int[] sizes;
        private final int[] firsts;
        private int letters;
        private int length;

        Patterns() {
            pattern = new int[MOST_TYPED];
            uses = new int[LETTERS];
            totals = new int[MOST_SHAPES];
            linkEnds = new int[MOST_SHAPES];
            links = new int[MOST_LINKS];
            sizes = new int[LETTERS];
            firsts = new int[LETTERS];
        }

        int countAvoiders(int[] word, int wordLength, int newLetters, int newLength) {
            letters = newLetters;
            length = newLength;
            patternLength = Math.min(wordLength, MOST_TYPED);
            Arrays.fill(uses, 0);
            for (int i = 0; i < patternLength; i++) {
                pattern[i] = word[i];
                uses[word[i]]++;
            }
            findShapes();
            return countFrom(this, 0, 0, 0);
        }

        /** A shape is a length for the piece of each letter; only those short enough for a word are kept. */
        private void findShapes() {
            shapeCount = 0;
            linkCount = 0;
            for (int a = 1; a <= length && canBe(0, a, 0); a++) {
                int withA = uses[0] * a;
                for (int b = 1; b <= length && canBe(1, b, withA); b++) {
                    int withB = withA + uses[1] * b;
                    for (int c = 1; c <= length && canBe(2, c, withB); c++) {
                        int withC = withB + uses[2] * c;
                        for (int d = 1; d <= length && canBe(3, d, withC); d++) {
                            setSizes(a, b, c, d);
                            keepShape(withC + uses[3] * d);
                        }
                    }
                }
            }
        }

        /** A letter that the pattern does not have gets the length 1 alone. */
        private boolean canBe(int letter, int size, int before) {
            int longest = uses[letter] == 0 ? 1 : length;
            return size <= longest && before + uses[letter] * size <= length;
        }

        private void setSizes(int a, int b, int c, int d) {
            sizes[0] = a;
            sizes[1] = b;
            sizes[2] = c;
            sizes[3] = d;
        }

        /** Each piece but the first one for its letter is linked with that first one. */
        private void keepShape(int total) {
            if (shapeCount >= MOST_SHAPES) {
                return;
            }
            Arrays.fill(firsts, -1);
            int behind = total;
            for (int i = 0; i < patternLength; i++) {
                int letter = pattern[i];
                behind -= sizes[letter];
                if (firsts[letter] < 0) {
                    firsts[letter] = behind;
                } else if (linkCount < MOST_LINKS) {
                    links[linkCount] = packedLink(firsts[letter], behind, sizes[letter]);
                    linkCount++;
                }
            }
            totals[shapeCount] = total;
            linkEnds[shapeCount] = linkCount;
            shapeCount++;
        }

        private static int packedLink(int one, int other, int size) {
            int mask = (1 << size * LETTER_BITS) - 1;
            return mask << 2 * SHIFT_BITS | one * LETTER_BITS << SHIFT_BITS | other * LETTER_BITS;
        }

        /**
         * Words that differ only by names of letters have the same patterns, so just those are tried
         * in which new letters come in their order.
         */
        private static int countFrom(Patterns in, int depth, int used, int tried) {
            if (depth >= in.length || depth >= LONGEST_AVOIDER) {
                return in.namings(used);
            }
            int total = 0;
            for (int letter = 0; letter <= used && letter < in.letters; letter++) {
                int longer = tried << LETTER_BITS | letter;
                if (!in.endsWithPattern(longer, depth + 1)) {
                    total += countFrom(in, depth + 1, Math.max(used, letter + 1), longer);
                }
            }
            return total;
        }

        private int namings(int used) {
            int ways = 1;
            for (int i = 0; i < used; i++) {
                ways *= letters - i;
            }
            return ways;
        }

        private boolean endsWithPattern(int tried, int end) {
            for (int shape = 0; shape < shapeCount; shape++) {
                if (totals[shape] <= end && areLinksAlike(tried, shape)) {
                    return true;
                }
            }
            return false;
        }

        private boolean areLinksAlike(int tried, int shape) {
            for (int i = shape == 0 ? 0 : linkEnds[shape - 1]; i < linkEnds[shape]; i++) {
                int one = tried >>> (links[i] >>> SHIFT_BITS & SHIFT_MASK);
                int other = tried >>> (links[i] & SHIFT_MASK);
                if (((one ^ other) & links[i] >>> 2 * SHIFT_BITS) != 0) {
                    return false;
                }
            }
            return true;
        }
    }

    /** Walks by the letters of a sequence. */
    private static final class Turtle {
        private static final int DIRECTIONS = 4;

        private final Keys keys;
        private final char[] commands;

        Turtle(Keys shared) {
            keys = shared;
            commands = new char[LETTERS];
            for (int letter = 0; letter < LETTERS; letter++) {
                commands[letter] = '-';
            }
        }

        boolean knows(char command) {
            return command == 'f' || command == 'l' || command == 'r' || command == '-';
        }

        int learn(int letter, char command) {
            commands[letter] = command;
            int active = 0;
            for (int i = 0; i < LETTERS; i++) {
                if (commands[i] != '-') {
                    active++;
                }
            }
            return active;
        }

        /** Directions turn to the left: 0 right, 1 up, 2 left, 3 down. */
        int walk(int[] text, int places, char what) {
            int x = 0;
            int y = 0;
            int direction = 0;
            keys.clear();
            keys.putFour(x, y, 0, 0);
            for (int place = 0; place < places && place < text.length; place++) {
                char command = commands[text[place]];
                if (command == 'l') {
                    direction = (direction + 1) % DIRECTIONS;
                } else if (command == 'r') {
                    direction = (direction + DIRECTIONS - 1) % DIRECTIONS;
                } else if (command == 'f') {
                    x += direction == 0 ? 1 : direction == 2 ? -1 : 0;
                    y += direction == 1 ? 1 : direction == 3 ? -1 : 0;
                    keys.putFour(x, y, 0, 0);
                }
            }
            return what == 'x' ? x : what == 'y' ? y : keys.size;
        }
    }
}
