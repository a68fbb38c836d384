import java.lang.reflect.InvocationTargetException;
import java.lang.reflect.Method;
import java.util.ArrayList;
import java.util.List;

/** Runs of calls, drawn by a fixed row of numbers, on the hall and on the plain one: they answer alike. */
final class OracleTest {
    private static final int RUNS = Integer.getInteger("runs", 140);
    private static final int CALLS = 512;
    private static final String[][] THEMES = {
        {"equal", "less", "sum", "number", "letterIs", "same", "same", "same", "join", "join", "join", "not",
            "exists", "forAll", "states", "states", "holds", "count", "free", "isTrue", "drop"},
        {"equal", "less", "sum", "number", "letterIs", "same", "join", "join", "not", "exists", "forAll", "states",
            "holds", "count", "free", "isTrue", "drop", "arrow", "give"},
        {"letterIs", "same", "sum", "less", "join", "join", "exists", "forAll", "states", "holds", "count", "not"},
        {"fixed", "automatonOf", "uniform", "isPrimitive", "grown", "pieces", "piecesByCounts", "palindromes",
            "exponent", "letterAt", "type", "wipe", "setImage"},
        {"letterAt", "least", "kernel", "arrow", "give", "pieces", "piecesByCounts", "palindromes", "exponent",
            "command", "path", "path", "meanLetter", "checksum"},
        {"entry", "entry", "term", "term", "added", "digits", "digitAt", "isLost"},
        {"type", "type", "type", "wipe", "avoiders", "avoiders", "slopeNumber", "slope", "letterAt", "path"},
    };
    private static Morphichall hall;
    private static PlainHall plain;
    private static int runNumber;
    private static int calls;
    private static long drawn;
    private static final List<Method> METHODS = new ArrayList<>();

    public static void main(String[] args) throws ReflectiveOperationException {
        for (Method method : PlainHall.class.getDeclaredMethods()) {
            if (isOfFace(method)) {
                METHODS.add(method);
            }
        }
        METHODS.sort((a, b) -> a.getName().compareTo(b.getName()));
        long seed = Long.getLong("seed", 1);
        for (int run = 0; run < RUNS; run++) {
            drawn = seed * 1000003 + run;
            compareRun(run);
        }
        Check.end("OracleTest");
    }

    private static boolean isOfFace(Method method) {
        try {
            Morphichall.class.getMethod(method.getName(), method.getParameterTypes());
            return !method.isSynthetic();
        } catch (NoSuchMethodException e) {
            return false;
        }
    }

    private static int draw(int below) {
        drawn = drawn * 6364136223846793005L + 1442695040888963407L;
        return (int) ((drawn >>> 33) % below);
    }

    private static void compareRun(int run) throws ReflectiveOperationException {
        hall = new Morphichall();
        plain = new PlainHall();
        runNumber = run;
        calls = 0;
        int theme = run % THEMES.length;
        prepare(theme);
        while (calls < CALLS) {
            Method method = draw(10) < 8 ? named(THEMES[theme][draw(THEMES[theme].length)])
                    : METHODS.get(draw(METHODS.size()));
            compare(method.getName(), arguments(method));
        }
    }

    private static void compare(String name, Object... given) throws ReflectiveOperationException {
        Method method = named(name);
        Method same = Morphichall.class.getMethod(name, method.getParameterTypes());
        Check.due("run " + runNumber + " call " + calls + ": " + name + List.of(given),
                answer(same, hall, given), answer(method, plain, given));
        calls++;
    }

    private static void prepare(int theme) throws ReflectiveOperationException {
        switch (theme) {
            case 0:
            case 1:
                drawAutomaton(2, 8);
                drawAutomaton(2, 1 + draw(8));
                break;
            case 2:
                drawRests();
                break;
            case 3:
                for (int i = 0; i < 5; i++) {
                    drawMorphism(i, 2 + draw(3), draw(2) == 0 ? 0 : 2 + draw(3));
                }
                break;
            case 4:
                for (int i = 0; i < 3; i++) {
                    drawAutomaton(2 + i, 1 + draw(8));
                }
                break;
            case 5:
                drawTable(0, 1 + draw(3));
                drawTable(1, 1 + draw(3));
                break;
            default:
        }
    }

    private static void drawAutomaton(int base, int states) throws ReflectiveOperationException {
        compare("automaton", base, states);
        int number = plain.sequences() - 1;
        int letters = 2 + draw(3);
        for (int state = 0; state < states; state++) {
            compare("give", number, state, (char) ('a' + draw(letters)));
            for (int digit = 0; digit < base; digit++) {
                compare("arrow", number, state, digit, draw(states));
            }
        }
    }

    /** How many ones two numbers have, by their rests, and what both are together: many sets of states. */
    private static void drawRests() throws ReflectiveOperationException {
        for (int number = 0; number < 2; number++) {
            int states = 2 + draw(7);
            compare("automaton", 2, states);
            for (int state = 0; state < states; state++) {
                compare("arrow", number, state, 1, (state + 1) % states);
            }
            compare("give", number, draw(states), 'b');
        }
        if (draw(3) == 0) {
            compareAtLimit();
        }
        compare("letterIs", 0, 0, 'b');
        compare("letterIs", 1, 1, 'b');
        compare("join", draw(4) > 0);
        compare("sum", 0, 1, 2);
        compare("join", draw(4) > 0);
        for (int i = 0; i < 4; i++) {
            compare(draw(2) == 0 ? "exists" : "forAll", draw(3));
            compare("states");
        }
    }

    /** 200 or 201 pairs or sets are met, by how many states the two automata came to have. */
    private static void compareAtLimit() throws ReflectiveOperationException {
        compare("same", 0, 0, 1);
        compare("sum", 0, 2, 1);
        compare("join", false);
        compare("sum", 2, 1, 2);
        compare("join", true);
        compare("states");
        compare("less", 0, 1);
        compare("number", 2, 10);
        compare("join", false);
        compare("equal", 0, 2);
        compare("join", false);
        compare("letterIs", 1, 1, 'b');
        compare("join", false);
        compare("exists", 1);
        compare("states");
        compare("drop");
        compare("drop");
    }

    private static void drawMorphism(int number, int letters, int length) throws ReflectiveOperationException {
        compare("morphism", letters);
        for (int letter = 0; letter < letters; letter++) {
            compare("wipe");
            int size = length == 0 ? 1 + draw(6) : length;
            for (int i = 0; i < size; i++) {
                compare("type", (char) ('a' + (letter + i == 0 ? 0 : draw(letters))));
            }
            compare("setImage", number, (char) ('a' + letter));
        }
    }

    private static void drawTable(int number, int rank) throws ReflectiveOperationException {
        compare("regular", rank);
        for (int row = 0; row < rank; row++) {
            compare("entry", number, 'l', 0, row, draw(19) - 9);
            compare("entry", number, 'r', row, 0, draw(19) - 9);
            for (int column = 0; column < rank; column++) {
                compare("entry", number, '0', row, column, draw(19) - 9);
                compare("entry", number, '1', row, column, draw(19) - 9);
            }
        }
    }

    private static Method named(String name) {
        for (Method method : METHODS) {
            if (method.getName().equals(name)) {
                return method;
            }
        }
        throw new IllegalArgumentException(name);
    }

    private static Object[] arguments(Method method) {
        Class<?>[] types = method.getParameterTypes();
        Object[] out = new Object[types.length];
        for (int i = 0; i < out.length; i++) {
            if (types[i] == boolean.class) {
                out[i] = draw(2) == 0;
            } else if (types[i] == char.class) {
                out[i] = sign(method.getName(), i);
            } else {
                out[i] = number(method.getName(), i);
            }
        }
        return out;
    }

    private static char sign(String name, int at) {
        String usual = "abcd";
        switch (name) {
            case "type":
                usual = draw(3) > 0 ? "ab" : "abc";
                break;
            case "digits":
            case "digitAt":
                usual = "234f-";
                break;
            case "entry":
                usual = "l01r";
                break;
            case "command":
                usual = at == 0 ? "abcd" : "flr-";
                break;
            case "path":
                usual = "xyn";
                break;
            default:
        }
        return draw(40) == 0 ? "e`A\0\uffffgx5q".charAt(draw(9)) : usual.charAt(draw(usual.length()));
    }

    private static int number(String name, int at) {
        if (draw(60) == 0) {
            int[] edges = {-1, Integer.MIN_VALUE, Integer.MAX_VALUE, 1000001, 2000000001, 1001, 1000000001};
            return edges[draw(edges.length)];
        }
        switch (name) {
            case "morphism":
                return 1 + draw(5);
            case "grown":
                return at == 0 ? draw(4) : draw(22);
            case "slopeNumber":
                return draw(11);
            case "automaton":
                return at == 0 ? (draw(3) == 0 ? 1 + draw(5) : 2) : 1 + draw(9);
            case "arrow":
                return at == 0 ? draw(6) : at == 2 ? draw(3) : draw(8);
            case "give":
                return at == 0 ? draw(6) : draw(8);
            case "letterAt":
                return at == 0 ? draw(8) : draw(2) == 0 ? draw(1030) : draw(2000000000);
            case "kernel":
                return at == 0 ? draw(8) : draw(6);
            case "digits":
            case "digitAt":
                return at == 2 ? draw(32) : draw(2) == 0 ? draw(300) : draw(1000002);
            case "isLost":
                return draw(2) == 0 ? draw(30) : draw(1003);
            case "number":
                return at == 0 ? draw(5) : draw(22);
            case "letterIs":
            case "same":
                return at == 0 ? draw(5) : draw(5);
            case "equal":
            case "less":
            case "sum":
            case "exists":
            case "forAll":
                return draw(5) + draw(30) / 29;
            case "holds":
                return draw(3) == 0 ? draw(1000002) : draw(40);
            case "count":
                return at == 0 ? draw(5) : draw(1002);
            case "pieces":
            case "palindromes":
                return at == 0 ? draw(8) : draw(14);
            case "piecesByCounts":
                return at == 0 ? draw(8) : draw(62);
            case "exponent":
                return at == 0 ? draw(8) : draw(122);
            case "regular":
                return draw(5);
            case "entry":
                return at == 0 ? draw(5) : at == 4 ? draw(21) - 10 : draw(4) - draw(40) / 39;
            case "added":
                return draw(4);
            case "term":
                return at == 0 ? draw(4) : draw(2) == 0 ? draw(10) : draw(1000000001);
            case "avoiders":
                return at == 0 ? 1 + draw(4) : draw(12);
            case "path":
                return at == 0 ? draw(8) : draw(1002);
            case "meanLetter":
                return at == 0 ? draw(8) : draw(1002);
            default:
                return draw(8);
        }
    }

    private static String answer(Method method, Object on, Object[] given) throws IllegalAccessException {
        try {
            return String.valueOf(method.invoke(on, given));
        } catch (InvocationTargetException e) {
            if (e.getCause() instanceof Error) {
                throw (Error) e.getCause();
            }
            return "throws." + e.getCause().getClass().getSimpleName();
        }
    }
}
