import java.math.BigInteger;
import java.util.Arrays;
import java.util.function.Consumer;

/** Promises 1 to 8, and what the terms say of words and morphisms, at their bounds. */
final class WordBounds extends Bounds {
    private static final String LETTERS = "abcd";
    private static int latestTime;

    private WordBounds() {
    }

    static void check() {
        letters();
        newHall();
        type();
        wipe();
        morphism();
        setImage();
        uniform();
        isPrimitive();
        grown();
        morphismOfTerms();
    }

    private static void letters() {
        at("What it is", "The letters are a to d.");
        for (int sign = 0; sign < 128; sign++) {
            due(LETTERS.indexOf(sign) < 0 ? ARGUMENT : 1, NEW, "type", (char) sign);
        }
    }

    private static void newHall() {
        promise(1, "Creates a hall without morphisms, sequences and formulas, with an empty word.");
        due(INDEX, NEW, "uniform", 0);
        due(0, NEW, "morphism", 2);
        due(0, NEW, "sequences");
        due(INDEX, NEW, "letterAt", 0, 0);
        due(0, NEW, "automaton", 2, 1);
        for (String asked : new String[] {"not", "drop", "free", "states", "isTrue"}) {
            due(NO_ELEMENT, NEW, asked);
        }
        due(1, NEW, "equal", 0, 0);
        due(0, NEW, "wipe");
        due(1, NEW, "type", 'a');
        due(NO_ELEMENT, NEW, "avoiders", 2, 0);
        due(UNSUPPORTED, NEW, "slope");
        due(1, NEW, "slopeNumber", 1);
        due(INDEX, NEW, "term", 0, 0);
        due(0, NEW, "regular", 1);
        due(1, NEW, "command", 'a', 'f');
        due(7, NEW, "checksum");
        due(true, NEW, "isSound");
    }

    private static void type() {
        new Refusals(2, "type").signs("letter", LETTERS, ARGUMENT)
                .hall("no letter", Halls.withWord(0)).hall("a word of 5", Halls.withWord(5))
                .hall("39 letters", Halls.withWord(39))
                .hall("40 letters", Halls.withWord(40), STATE).check();
        promise(2, "Types a letter behind the word.");
        Consumer<Morphichall> four = hall -> Halls.morphism(hall, "abcd", "b", "c", "d");
        is("a fixed word of what is typed", Halls.text(Check.prepared(then(four, "fixed", 0)), 0, 0, 8), "abcdbcdb");
        promise(2, "Returns how many the word has.");
        Morphichall hall = new Morphichall();
        for (int i = 1; i <= 40; i++) {
            next(i, hall, "type", LETTERS.charAt(i % 4));
        }
        terms("The word that is typed has at most 40 letters.");
        next(STATE, hall, "type", 'a');
        next(40, hall, "wipe");
        for (int letters = 0; letters < 40; letters++) {
            due(letters + 1, Halls.withWord(letters), "type", 'd');
        }
        due(STATE, Halls.withWord(40), "type", 'd');
        promise(2, "Throws `IllegalStateException` if it has 40");
        due(40, Halls.withWord(39), "type", 'd');
        due(STATE, Halls.withWord(40), "type", 'd');
        due(1, then(Halls.withWord(40), "wipe"), "type", 'd');
    }

    private static void wipe() {
        promise(3, "Takes all letters out of the word.");
        for (int letters : new int[] {0, 1, 40}) {
            Morphichall hall = Check.prepared(Halls.withWord(letters));
            promise(3, "Returns how many it had.");
            next(letters, hall, "wipe");
            promise(3, "Takes all letters out of the word.");
            next(NO_ELEMENT, hall, "avoiders", 2, 0);
            next(0, hall, "wipe");
            next(1, hall, "type", 'c');
            next(1, hall, "setImage", 1, 'a');
        }
    }

    private static void morphism() {
        new Refusals(4, "morphism").range("letters", 2, 4, ARGUMENT)
                .hall("2 morphisms", SOME).hall("5 morphisms", Halls.withMorphisms(5))
                .hall("6 morphisms", Halls.withMorphisms(6), STATE).check();
        promise(4, "Adds a morphism.");
        for (int letters = 2; letters <= 4; letters++) {
            Consumer<Morphichall> one = then(NEW, "morphism", letters);
            for (int i = 0; i < 4; i++) {
                due(i < letters ? 1 : ARGUMENT, one, "grown", 0, LETTERS.charAt(i), 1);
            }
        }
        promise(4, "Returns its number.");
        Morphichall hall = new Morphichall();
        for (int i = 0; i < 6; i++) {
            next(INDEX, hall, "uniform", i);
            next(i, hall, "morphism", 2 + i % 3);
            next(1, hall, "uniform", i);
        }
        terms("At most 6 morphisms are numbered from 0");
        next(STATE, hall, "morphism", 2);
        next(INDEX, hall, "uniform", 6);
        next(INDEX, hall, "uniform", -1);
    }

    private static void setImage() {
        Refusals refusals = new Refusals(5, "setImage").hall("a word of 1", thenWord("b"))
                .hall("a word of 6", thenWord("abbaab")).hall("an empty word", thenWord(""), ARGUMENT)
                .hall("a word of 7", thenWord("abbaabb"), ARGUMENT)
                .hall("a word of 40", Halls.withWord(40), ARGUMENT)
                .hall("a word with a third letter", thenWord("abbaac"), ARGUMENT)
                .hall("a third letter alone", thenWord("c"), ARGUMENT);
        refusals.argument("morphism", 0).wrong(INDEX, -1, 2, Integer.MIN_VALUE, Integer.MAX_VALUE)
                .signs("letter", "ab", ARGUMENT).check();
        promise(5, "- `letter`: the letter");
        for (int letters = 2; letters <= 4; letters++) {
            for (int i = 0; i < 4; i++) {
                due(i < letters ? 1 : ARGUMENT, then(then(NEW, "morphism", letters), "type", 'a'), "setImage", 0,
                        LETTERS.charAt(i));
                due(i < letters ? 1 : ARGUMENT, then(then(NEW, "morphism", letters), "type", LETTERS.charAt(i)),
                        "setImage", 0, 'a');
            }
        }
        promise(5, "- `morphism`: the morphism");
        for (int morphism = -1; morphism <= 6; morphism++) {
            boolean is = morphism >= 0 && morphism < 6;
            due(is ? 4 : INDEX, then(Halls.withMorphisms(6), "wipe").andThen(hall -> Halls.type(hall, "abab")),
                    "setImage", morphism, 'b');
        }
        promise(5, "Makes the word the image of a letter; the word stays.");
        for (int letters = 1; letters <= 6; letters++) {
            Morphichall hall = Check.prepared(thenWord("abaabb".substring(0, letters)));
            promise(5, "Returns how long it is.");
            next(letters, hall, "setImage", 1, 'c');
            next(letters, hall, "grown", 1, 'c', 1);
            promise(5, "Makes the word the image of a letter; the word stays.");
            next(letters + 1, hall, "type", 'a');
            next(letters, hall, "grown", 1, 'c', 1);
        }
        promise(5, "Throws `IllegalArgumentException` if the morphism has no such letter, or the word is not an image");
        due(ARGUMENT, thenWord(""), "setImage", 1, 'a');
        due(ARGUMENT, thenWord("aaaaaaa"), "setImage", 1, 'a');
    }

    private static Consumer<Morphichall> thenWord(String word) {
        return SOME.andThen(hall -> Halls.type(hall, word));
    }

    private static void uniform() {
        new Refusals(6, "uniform").hall("2 morphisms", SOME)
                .argument("morphism", 0, 1).wrong(INDEX, -1, 2, Integer.MIN_VALUE, Integer.MAX_VALUE).check();
        promise(6, "- `morphism`: the morphism");
        due(INDEX, NEW, "uniform", 0);
        due(1, Halls.withMorphisms(6), "uniform", 5);
        due(INDEX, Halls.withMorphisms(6), "uniform", 6);
        for (int letters = 2; letters <= 4; letters++) {
            for (int length = 1; length <= 6; length++) {
                String[] images = new String[letters];
                for (int i = 0; i < letters; i++) {
                    images[i] = "a".repeat(length);
                }
                promise(6, "Returns how long all images of a morphism are.");
                due(length, hall -> Halls.morphism(hall, images), "uniform", 0);
                for (int i = 0; i < letters; i++) {
                    uniformByOne(images, i, length);
                }
            }
        }
    }

    /** One image is longer by one, or shorter, and then all are as long again. */
    private static void uniformByOne(String[] images, int changed, int length) {
        for (int other = length - 1; other <= length + 1; other += 2) {
            if (other >= 1 && other <= 6) {
                String[] unlike = images.clone();
                unlike[changed] = "b".repeat(other);
                promise(6, "Returns the length, 0 if it is not uniform.");
                due(0, hall -> Halls.morphism(hall, unlike), "uniform", 0);
                terms("A morphism is uniform if all images are as long as each other.");
                due(0, hall -> Halls.morphism(hall, unlike), "uniform", 0);
            }
        }
    }

    private static void isPrimitive() {
        new Refusals(7, "isPrimitive").hall("2 morphisms", SOME)
                .argument("morphism", 0, 1).wrong(INDEX, -1, 2, Integer.MIN_VALUE, Integer.MAX_VALUE).check();
        promise(7, "- `morphism`: the morphism");
        due(INDEX, NEW, "isPrimitive", 0);
        due(false, Halls.withMorphisms(6), "isPrimitive", 5);
        promise(7, "Returns whether a morphism is primitive.");
        due(true, hall -> Halls.morphism(hall, "ab", "ab"), "isPrimitive", 0);
        due(false, hall -> Halls.morphism(hall, "ab", "b"), "isPrimitive", 0);
        terms("It is primitive if for some number of times, 1 to 16");
        due(false, then(NEW, "morphism", 2), "isPrimitive", 0);
        for (int letters = 2; letters <= 4; letters++) {
            latestTime = 0;
            everySetOfImages(letters);
            int latest = (letters - 1) * (letters - 1) + 1;
            is("the latest first time of any of " + letters + " letters", latestTime, latest);
        }
        promise(7, "Returns true if so.");
        due(true, hall -> Halls.morphism(hall, "b", "c", "d", "ab"), "isPrimitive", 0);
        due(false, hall -> Halls.morphism(hall, "b", "c", "d", "a"), "isPrimitive", 0);
    }

    /** What letters an image has is all that counts: all sets of them are tried, for each letter. */
    private static void everySetOfImages(int letters) {
        int sets = (1 << letters) - 1;
        int[] images = new int[letters];
        int last = letters - 1;
        for (int first = 0; first < Math.pow(sets, last); first++) {
            Morphichall hall = Check.prepared(then(NEW, "morphism", letters));
            for (int i = 0, rest = first; i < last; i++, rest /= sets) {
                images[i] = 1 + rest % sets;
                tell(hall, i, images[i]);
            }
            for (images[last] = 1; images[last] <= sets; images[last]++) {
                tell(hall, last, images[last]);
                int time = firstTime(images);
                latestTime = Math.max(latestTime, time);
                if (hall.isPrimitive(0) != (time > 0)) {
                    is("of images with the letters " + Arrays.toString(images), time == 0, time > 0);
                }
            }
        }
    }

    private static void tell(Morphichall hall, int letter, int image) {
        hall.wipe();
        for (int i = 0; i < 4; i++) {
            if ((image >> i & 1) != 0) {
                hall.type(LETTERS.charAt(i));
            }
        }
        hall.setImage(0, LETTERS.charAt(letter));
    }

    /** After how many times each letter first has all of them, 0 if it is not so up to 16. */
    private static int firstTime(int[] images) {
        int all = (1 << images.length) - 1;
        int[] now = images.clone();
        for (int time = 1; time <= 16; time++) {
            int common = all;
            for (int each : now) {
                common &= each;
            }
            if (common == all) {
                return time;
            }
            int[] later = new int[images.length];
            for (int i = 0; i < images.length; i++) {
                for (int j = 0; j < images.length; j++) {
                    later[i] |= (now[i] >> j & 1) != 0 ? images[j] : 0;
                }
            }
            now = later;
        }
        return 0;
    }

    private static void grown() {
        new Refusals(8, "grown").hall("2 morphisms", SOME)
                .argument("morphism", 1).wrong(INDEX, -1, 2, Integer.MIN_VALUE, Integer.MAX_VALUE)
                .signs("letter", "abc", ARGUMENT).range("times", 0, 20, ARGUMENT).check();
        promise(8, "- `morphism`: the morphism");
        due(INDEX, NEW, "grown", 0, 'a', 1);
        due(1, Halls.withMorphisms(6), "grown", 5, 'a', 1);
        promise(8, "Returns how long a letter is grown.");
        Morphichall hall = new Morphichall();
        Halls.morphism(hall, "aaaaaa", "ab", "bbcd", "d");
        long[] lengths = {1, 1, 1, 1};
        for (int times = 0; times <= 20; times++) {
            for (int i = 0; i < 4; i++) {
                next(lengths[i], hall, "grown", 0, LETTERS.charAt(i), times);
            }
            lengths = new long[] {6 * lengths[0], lengths[0] + lengths[1], 2 * lengths[1] + lengths[2] + lengths[3],
                lengths[3]};
        }
        promise(8, "- `times`: how many times, 0 to 20");
        next(1, hall, "grown", 0, 'a', 0);
        next(BigInteger.valueOf(6).pow(20), hall, "grown", 0, 'a', 20);
        promise(8, "Returns the length of what it becomes.");
        next(BigInteger.valueOf(6).pow(19), hall, "grown", 0, 'a', 19);
        next(1, hall, "grown", 0, 'd', 20);
    }

    private static void morphismOfTerms() {
        terms("each of 2 to 4 letters, from a on, each of which has an image, a word of 1 to 6 of these letters");
        due(ARGUMENT, NEW, "morphism", 1);
        due(0, NEW, "morphism", 2);
        due(0, NEW, "morphism", 4);
        due(ARGUMENT, NEW, "morphism", 5);
        for (int letters = 0; letters <= 7; letters++) {
            due(letters >= 1 && letters <= 6 ? letters : ARGUMENT, thenWord("a".repeat(letters)), "setImage", 0, 'b');
        }
        terms("at first itself");
        for (int letters = 2; letters <= 4; letters++) {
            for (int i = 0; i < letters; i++) {
                due(1, then(NEW, "morphism", letters), "grown", 0, LETTERS.charAt(i), 20);
            }
        }
        Consumer<Morphichall> onlyA = then(NEW, "morphism", 4).andThen(hall -> Halls.type(hall, "abcd"));
        Morphichall hall = Check.prepared(then(onlyA, "setImage", 0, 'a'));
        next(0, hall, "fixed", 0);
        is("letters that stay themselves", Halls.text(hall, 0, 0, 12), "abcdbcdbcdbc");
    }
}
