import java.util.Set;
import java.util.TreeSet;

/** Promises 20 to 22, and what the terms say of numerations, at their bounds. */
final class NumerationBounds extends Bounds {
    private static final int HIGHEST = 1000000;
    private static final int HEAPS = 1001;
    private static final String KINDS = "234f-";

    private NumerationBounds() {
    }

    static void check() {
        digits();
        digitAt();
        nought();
        for (char kind : KINDS.toCharArray()) {
            for (int number : numbersAround(kind)) {
                dueDigits(kind, number);
            }
        }
        isLost();
        lostHeaps();
    }

    private static void digits() {
        new Refusals(20, "digits").hall("something of all", SOME).signs("kind", KINDS, ARGUMENT)
                .range("number", 0, HIGHEST, ARGUMENT).check();
        promise(20, "- `number`: the number");
        int[] greatest = {20, 13, 10, 29, 21};
        for (int i = 0; i < KINDS.length(); i++) {
            due(0, NEW, "digits", KINDS.charAt(i), 0);
            due(1, NEW, "digits", KINDS.charAt(i), 1);
            due(greatest[i], NEW, "digits", KINDS.charAt(i), HIGHEST);
            due(ARGUMENT, NEW, "digits", KINDS.charAt(i), HIGHEST + 1);
            due(ARGUMENT, NEW, "digits", KINDS.charAt(i), -1);
        }
    }

    private static void digitAt() {
        new Refusals(21, "digitAt").hall("something of all", SOME).signs("kind", KINDS, ARGUMENT)
                .range("number", 0, HIGHEST, ARGUMENT).argument("place", 0, Integer.MAX_VALUE)
                .wrong(ARGUMENT, -1, Integer.MIN_VALUE).check();
        promise(21, "- `place`: the place, from 0");
        for (char kind : KINDS.toCharArray()) {
            due(1, NEW, "digitAt", kind, 1, 0);
            due(ARGUMENT, NEW, "digitAt", kind, 1, -1);
        }
    }

    private static void nought() {
        terms("The number 0 has no digits.");
        for (char kind : KINDS.toCharArray()) {
            due(0, NEW, "digits", kind, 0);
            due(0, NEW, "digitAt", kind, 0, 0);
            due(1, NEW, "digits", kind, 1);
        }
    }

    /** Where the number of digits changes, and the greatest number of all. */
    private static Set<Integer> numbersAround(char kind) {
        Set<Integer> out = new TreeSet<>();
        for (int number = 0; number < 40; number++) {
            out.add(number);
        }
        long before = 1;
        for (long weight = 1; weight <= HIGHEST;) {
            for (long number = weight - 1; number <= weight + 1; number++) {
                out.add((int) Math.min(number, HIGHEST));
            }
            long now = weight;
            weight = kind == 'f' ? weight + before : kind == '-' ? 2 * weight + 1 : weight * (kind - '0');
            if (kind == '-') {
                out.add((int) Math.min((weight - 1) / 3, HIGHEST));
                out.add((int) Math.min((weight - 1) / 3 + 1, HIGHEST));
            }
            before = now;
        }
        out.add(HIGHEST - 1);
        out.add(HIGHEST);
        return out;
    }

    private static void dueDigits(char kind, int number) {
        String text = spelled(kind, number);
        promise(20, "Returns how many digits a number has.");
        due(text.length(), NEW, "digits", kind, number);
        promise(20, "Returns how many.");
        due(text.length(), then(SOME, "digits", kind, HIGHEST), "digits", kind, number);
        Morphichall hall = new Morphichall();
        promise(21, "Returns a digit of a number.");
        for (int place = 0; place < text.length(); place++) {
            next(text.charAt(text.length() - 1 - place), hall, "digitAt", kind, number, place);
        }
        promise(21, "Returns the digit, 0 behind the highest one.");
        next(0, hall, "digitAt", kind, number, text.length());
        Call.answer(hall, "digits", text.length() < 20 ? '2' : '-', text.length() < 20 ? 1 << text.length() : HIGHEST);
        next(0, hall, "digitAt", kind, number, text.length());
        next(0, hall, "digitAt", kind, number, text.length() + 1);
        next(0, hall, "digitAt", kind, number, 40);
        next(0, hall, "digitAt", kind, number, Integer.MAX_VALUE);
        if (!text.isEmpty()) {
            next(1, hall, "digitAt", '2', 1, 0);
            next(text.charAt(0), hall, "digitAt", kind, number, text.length() - 1);
        }
        terms("A number, 0 to 1000000, is told by digits, the place 0 being the lowest: by 2, 3 or 4; by 'f'");
        is("the number that is told by " + text, told(kind, text), number);
    }

    /** The digits, the highest one first, each kind by a way of its own. */
    private static String spelled(char kind, int number) {
        if (number == 0) {
            return "";
        }
        if (kind == 'f') {
            return golden(number);
        }
        if (kind == '-') {
            return number % 2 == 0 ? times(-(number / 2)) + "0" : times(-((number - 1) / 2)) + "1";
        }
        return Integer.toString(number, kind - '0');
    }

    /** In base -2, of numbers below 0, too. */
    private static String times(int number) {
        if (number == 0) {
            return "";
        }
        int last = Math.floorMod(number, 2);
        return times((number - last) / -2) + last;
    }

    private static String golden(int number) {
        StringBuilder out = new StringBuilder();
        long lower = 1;
        long weight = 1;
        while (weight <= number) {
            long higher = weight + lower;
            lower = weight;
            weight = higher;
        }
        int rest = number;
        while (weight > 1 || lower > 1) {
            long before = weight - lower;
            weight = lower;
            lower = before;
            out.append(weight <= rest ? 1 : 0);
            rest -= weight <= rest ? weight : 0;
        }
        return out.toString();
    }

    private static long told(char kind, String text) {
        long before = 1;
        long weight = 1;
        long total = 0;
        for (int place = text.length() - 1; place >= 0; place--) {
            total += (text.charAt(place) - '0') * weight;
            long now = weight;
            weight = kind == 'f' ? weight + before : weight * (kind == '-' ? -2 : kind - '0');
            before = now;
        }
        return total;
    }

    private static void isLost() {
        new Refusals(22, "isLost").hall("something of all", SOME).range("one", 0, HEAPS - 1, ARGUMENT)
                .range("other", 0, HEAPS - 1, ARGUMENT).check();
        promise(22, "Returns whether a position of two heaps is lost.");
        due(true, NEW, "isLost", 1000, 618);
        due(true, NEW, "isLost", 618, 1000);
        for (int other : new int[] {0, 617, 619, 999, 1000}) {
            due(false, NEW, "isLost", 1000, other);
            due(false, NEW, "isLost", other, 1000);
        }
        promise(22, "Returns true if so.");
        due(true, NEW, "isLost", 0, 0);
        due(false, NEW, "isLost", 0, 1);
        due(false, NEW, "isLost", 1, 1);
        due(true, NEW, "isLost", 1, 2);
        due(true, NEW, "isLost", 2, 1);
        due(false, NEW, "isLost", 2, 2);
    }

    /** A move goes on in its line, in its column, or in both at once, to where a lost position has been found. */
    private static void lostHeaps() {
        terms("In the game of two heaps, from one of which one takes some, or the same number from both");
        boolean[] inLine = new boolean[HEAPS];
        boolean[] inColumn = new boolean[HEAPS];
        boolean[] inBoth = new boolean[2 * HEAPS];
        for (int one = 0; one < HEAPS; one++) {
            Morphichall hall = null;
            for (int other = 0; other < HEAPS; other++) {
                boolean isLost = !inLine[one] && !inColumn[other] && !inBoth[one - other + HEAPS];
                inLine[one] |= isLost;
                inColumn[other] |= isLost;
                inBoth[one - other + HEAPS] |= isLost;
                hall = other % 500 == 0 ? new Morphichall() : hall;
                if (isLost || other == HEAPS - 1 || one == HEAPS - 1 || one + other < 40) {
                    next(isLost, hall, "isLost", one, other);
                }
            }
        }
    }
}
