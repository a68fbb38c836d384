import java.util.function.Consumer;

/** Promise 47, and what the terms say of patterns, at their bounds. */
final class PatternBounds extends Bounds {
    private static final int[] SQUARELESS = {1, 3, 6, 12, 18, 30, 42, 60, 78, 108, 144};
    private static final int[] CUBELESS = {1, 2, 4, 6, 10, 16, 24, 36, 56, 80, 118};

    private PatternBounds() {
    }

    static void check() {
        new Refusals(47, "avoiders").hall("a word of 1", Halls.withWord(1)).hall("a word of 40", Halls.withWord(40))
                .hall("an empty word", Halls.withWord(0), NO_ELEMENT).range("letters", 2, 3, ARGUMENT)
                .range("length", 0, 10, ARGUMENT).check();
        lengths();
        plainPatterns();
        words();
        wordOfForty();
    }

    private static Consumer<Morphichall> word(String letters) {
        return hall -> Halls.type(hall, letters);
    }

    private static void lengths() {
        for (int length = 0; length <= 10; length++) {
            promise(47, "- `length`: the length, 0 to 10");
            due(SQUARELESS[length], word("aa"), "avoiders", 3, length);
            due(CUBELESS[length], word("ddd"), "avoiders", 2, length);
            promise(47, "Returns how many words over some letters do not have the pattern.");
            due(length == 0 ? 1 : 0, word("b"), "avoiders", 2, length);
            due(length == 0 ? 1 : 0, word("b"), "avoiders", 3, length);
            promise(47, "- `letters`: how many letters, 2 or 3");
            due(Math.round(Math.pow(2, length)), word("abcdabcdabc"), "avoiders", 2, length);
            due(Math.round(Math.pow(3, length)), word("abcdabcdabc"), "avoiders", 3, length);
        }
        promise(47, "Returns how many.");
        due(2, word("aa"), "avoiders", 2, 3);
        due(0, word("aa"), "avoiders", 2, 4);
        due(59049, word("abcdabcdabcd"), "avoiders", 3, 10);
        due(59049 - 3, word("aaaaaaaaaa"), "avoiders", 3, 10);
        due(1024 - 2, word("cccccccccc"), "avoiders", 2, 10);
        due(59049, word("aaaaaaaaaaa"), "avoiders", 3, 10);
        due(59049 - 81, word("abcdabcdab"), "avoiders", 3, 10);
    }

    /** Patterns whose pieces are just long enough, or just too long, for the words. */
    private static void plainPatterns() {
        String[] patterns = {"a", "ab", "aa", "aab", "aba", "abc", "abba", "abab", "abcd", "aabb", "abcab", "dcbad",
            "abacaba", "aabbcc", "abcabc", "aaabbb", "abcdabcd", "aabbccdd", "abcddabc",
            "aaaaaaaaa", "aaaaabbbbb", "ababababab", "ddddddddda", "abcdabcdab", "abcdabcdabc"};
        Morphichall hall = new Morphichall();
        for (String pattern : patterns) {
            PlainHall plain = new PlainHall();
            for (char letter : pattern.toCharArray()) {
                plain.type(letter);
            }
            Halls.type(hall, pattern);
            promise(47, "Returns how many words over some letters do not have the pattern.");
            next(plain.avoiders(2, 8), hall, "avoiders", 2, 8);
            for (int length = 0; length <= 10; length++) {
                terms("A pattern is the word as it is typed; a word has it if some neighbouring pieces of it");
                due(plain.avoiders(2, length), word(pattern), "avoiders", 2, length);
                if (length <= 7 || pattern.equals("ababababab")) {
                    due(plain.avoiders(3, length), word(pattern), "avoiders", 3, length);
                }
            }
        }
    }

    private static void words() {
        terms("none empty");
        due(3, word("ab"), "avoiders", 3, 1);
        due(0, word("ab"), "avoiders", 3, 2);
        due(9, word("aba"), "avoiders", 3, 2);
        terms("the same one for the same letter, unlike ones or not for unlike letters.");
        due(0, word("abc"), "avoiders", 2, 3);
        due(4, word("aba"), "avoiders", 2, 3);
        due(8, word("abcd"), "avoiders", 2, 3);
        due(0, word("abcd"), "avoiders", 2, 4);
    }

    private static void wordOfForty() {
        terms("The word that is typed has at most 40 letters.");
        for (String letters : new String[] {"a".repeat(40), "abcd".repeat(10), "d".repeat(39) + "a"}) {
            due(59049, word(letters), "avoiders", 3, 10);
            due(1, word(letters), "avoiders", 2, 0);
            due(40, then(word(letters), "avoiders", 3, 10), "wipe");
        }
    }
}
