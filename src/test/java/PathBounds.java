import java.lang.reflect.Field;
import java.util.Arrays;
import java.util.HashSet;
import java.util.Set;
import java.util.function.Consumer;

/** Promises 48, 49 and 52, what the terms say of the turtle, and how often an object is used, at their bounds. */
final class PathBounds extends Bounds {
    private static final String LETTERS = "abcd";

    private PathBounds() {
    }

    static void check() {
        command();
        commandsTold();
        path();
        lastPlace();
        turnsRound();
        everyCommand();
        isSound();
        isNotSound();
        lastCall();
    }

    private static void command() {
        new Refusals(48, "command").hall("something of all", SOME).hall("a new one", NEW)
                .signs("letter", LETTERS, ARGUMENT).signs("command", "flr-", ARGUMENT).check();
        promise(48, "Returns for how many letters it does something.");
        Morphichall hall = new Morphichall();
        next(0, hall, "command", 'd', '-');
        for (int i = 0; i < 4; i++) {
            next(i + 1, hall, "command", LETTERS.charAt(i), "flrf".charAt(i));
            next(i + 1, hall, "command", LETTERS.charAt(i), "rflr".charAt(i));
        }
        for (int i = 0; i < 4; i++) {
            next(3 - i, hall, "command", LETTERS.charAt(i), '-');
            next(3 - i, hall, "command", LETTERS.charAt(i), '-');
        }
    }

    private static Consumer<Morphichall> line(String commands) {
        return hall -> {
            hall.automaton(2, 1);
            for (int i = 0; i < commands.length(); i++) {
                hall.command(LETTERS.charAt(i), commands.charAt(i));
            }
        };
    }

    private static void commandsTold() {
        promise(48, "Tells what the turtle does for a letter.");
        due(1, line("f"), "path", 0, 1, 'x');
        due(0, line("-"), "path", 0, 1, 'x');
        due(0, then(line("f"), "command", 'a', 'l'), "path", 0, 9, 'x');
        due(9, then(line("l"), "command", 'a', 'f'), "path", 0, 9, 'x');
        due(9, then(line("f"), "command", 'b', 'l'), "path", 0, 9, 'x');
        terms("or does nothing, as told, nothing at first");
        for (char letter : LETTERS.toCharArray()) {
            Consumer<Morphichall> one = hall -> Halls.automaton(hall, letter + "00");
            due(0, one, "path", 0, 1000, 'x');
            due(1, one, "path", 0, 1000, 'n');
            due(1000, then(one, "command", letter, 'f'), "path", 0, 1000, 'x');
        }
    }

    private static void path() {
        new Refusals(49, "path").hall("3 sequences", SOME).argument("sequence", 0, 1, 2)
                .wrong(INDEX, -1, 3, Integer.MIN_VALUE, Integer.MAX_VALUE).range("places", 0, 1000, ARGUMENT)
                .signs("what", "xyn", ARGUMENT).check();
        promise(49, "- `sequence`: the sequence");
        due(INDEX, NEW, "path", 0, 0, 'x');
        due(1, Halls.withSequences(8), "path", 7, 0, 'n');
        due(INDEX, Halls.withSequences(8), "path", 8, 0, 'n');
        for (int places : new int[] {0, 1, 2, 999, 1000}) {
            promise(49, "- `places`: how many places, 0 to 1000");
            due(places, line("f"), "path", 0, places, 'x');
            due(0, line("f"), "path", 0, places, 'y');
            promise(49, "- `what`: x to the right, y up, n how many unlike places it was on");
            due(places + 1, line("f"), "path", 0, places, 'n');
            due(1, line("l"), "path", 0, places, 'n');
        }
    }

    private static void lastPlace() {
        promise(49, "Returns something of the path of the turtle by the first places of a sequence.");
        for (int place : new int[] {998, 999, 1000}) {
            Consumer<Morphichall> one = then(hall -> Halls.automaton(hall, Halls.onlyAt(place)), "command", 'b', 'f');
            due(place < 1000 ? 1 : 0, one, "path", 0, 1000, 'x');
            due(place < 999 ? 1 : 0, one, "path", 0, 999, 'x');
            due(place < 1000 ? 2 : 1, one, "path", 0, 1000, 'n');
        }
    }

    /** The sequence is some times a, and then b: turns, and then a step in the direction that comes of them. */
    private static void turnsRound() {
        for (int turns = 1; turns <= 9; turns++) {
            int numbers = turns;
            for (char turn : new char[] {'l', 'r'}) {
                Consumer<Morphichall> made = hall -> {
                    hall.slopeNumber(numbers);
                    hall.slope();
                    hall.command('a', turn);
                    hall.command('b', 'f');
                };
                int toTheLeft = (turn == 'l' ? turns : 3 * turns) % 4;
                terms("from the place 0, 0, looking to the right; up is to the left of this.");
                due(0, made, "path", 0, turns, 'x');
                due(0, made, "path", 0, turns, 'y');
                due(toTheLeft == 0 ? 1 : toTheLeft == 2 ? -1 : 0, made, "path", 0, turns + 1, 'x');
                due(toTheLeft == 1 ? 1 : toTheLeft == 3 ? -1 : 0, made, "path", 0, turns + 1, 'y');
                due(2, made, "path", 0, turns + 1, 'n');
            }
        }
    }

    private static void everyCommand() {
        Consumer<Morphichall> four = hall -> Halls.automaton(hall, "a0123", "b1230", "c2301", "d3012");
        String text = Halls.text(Check.prepared(four), 0, 0, 300);
        for (int told = 0; told < 256; told++) {
            Morphichall hall = Check.prepared(four);
            StringBuilder commands = new StringBuilder();
            for (int i = 0; i < 4; i++) {
                commands.append("flr-".charAt(told >> 2 * i & 3));
                hall.command(LETTERS.charAt(i), commands.charAt(i));
            }
            int x = 0;
            int y = 0;
            int right = 1;
            int up = 0;
            Set<String> places = new HashSet<>(Set.of("0 0"));
            for (char letter : text.toCharArray()) {
                char command = commands.charAt(letter - 'a');
                int turn = command == 'l' ? 1 : command == 'r' ? -1 : 0;
                int before = right;
                right = turn == 0 ? right : -turn * up;
                up = turn == 0 ? up : turn * before;
                x += command == 'f' ? right : 0;
                y += command == 'f' ? up : 0;
                places.add(x + " " + y);
            }
            terms("A turtle reads a sequence: for each letter it goes on by 1, turns to the left, to the right");
            next(x, hall, "path", 0, 300, 'x');
            next(y, hall, "path", 0, 300, 'y');
            promise(49, "Returns the number.");
            next(places.size(), hall, "path", 0, 300, 'n');
        }
    }

    private static void isSound() {
        promise(52, "Returns true if so.");
        due(true, NEW, "isSound");
        due(true, SOME, "isSound");
        due(true, Halls::fillUp, "isSound");
        due(true, Halls::fillRing, "isSound");
        due(true, then(Halls.withFormulas(6), "isSound"), "isSound");
        is("all that is seen after it", View.of(maker(then(SOME, "isSound"))), View.of(maker(SOME)));
    }

    /** Something inside a hall, which no call can put wrong. */
    private static Object inside(Object outer, String name) {
        try {
            Field field = outer.getClass().getDeclaredField(name);
            field.setAccessible(true);
            return field.get(outer);
        } catch (ReflectiveOperationException e) {
            throw new IllegalStateException(e);
        }
    }

    /** No hall comes to be unsound by its calls, so that its rows are put wrong here, as little as can be. */
    private static void isNotSound() {
        promise(52, "digits of numbers below 200 by each kind tell the number");
        due(true, hall -> sumsUpTo(hall, 199), "isSound");
        due(false, hall -> sumsUpTo(hall, 198), "isSound");
        promise(52, "lost positions of heaps below 10 are so by their moves");
        due(true, hall -> lostHeap(hall, 10, 10), "isSound");
        due(true, hall -> lostHeap(hall, 9, 10), "isSound");
        due(false, hall -> lostHeap(hall, 9, 9), "isSound");
        due(false, hall -> lostHeap(hall, 9, 0), "isSound");
        due(false, hall -> lostHeap(hall, 0, 9), "isSound");
        due(false, hall -> lostHeap(hall, 0, 1), "isSound");
        promise(52, "each formula on the stack holds alike with noughts ahead.");
        for (int formula = 0; formula < 6; formula++) {
            int wrong = formula;
            due(false, Halls.withFormulas(6).andThen(hall -> leadAway(hall, wrong)), "isSound");
            due(formula < 5, Halls.withFormulas(6).andThen(hall -> {
                leadAway(hall, 5);
                for (int count = 6; count > wrong + 1; count--) {
                    hall.drop();
                }
            }), "isSound");
        }
    }

    /** The numbers of kind f are together so much; all up to that, and none above it, can be told by them. */
    private static void sumsUpTo(Morphichall hall, int most) {
        int[] numbers = (int[]) inside(inside(hall, "numeration"), "goldenNumbers");
        numbers[9] = most - 142;
        for (int place = 10; place < numbers.length; place++) {
            numbers[place] = 1000;
        }
    }

    private static void lostHeap(Morphichall hall, int one, int other) {
        ((int[]) inside(inside(hall, "numeration"), "lostWith"))[one] = other;
    }

    /** A nought of all variables leads away from the beginning. */
    private static void leadAway(Morphichall hall, int formula) {
        Object[] stack = (Object[]) inside(inside(hall, "prover"), "stack");
        ((int[]) inside(stack[formula], "next"))[0] = 1;
    }

    /** After 511 calls that leave all as it was, the last one answers as the first one of a new hall. */
    private static void lastCall() {
        at("What it is", "An object is used for at most 512 calls after it has been made");
        Object[][] round = {{"equal", 0, 1}, {"not"}, {"drop"}, {"type", 'a'}, {"wipe"}, {"digits", 'f', 1000000},
            {"isSound"}};
        Object[][] last = {{"sequences"}, {"type", 'a'}, {"wipe"}, {"morphism", 4}, {"slopeNumber", 9}, {"slope"},
            {"automaton", 4, 8}, {"less", 0, 1}, {"drop"}, {"isLost", 1000, 618}, {"regular", 3}, {"checksum"},
            {"command", 'd', 'f'}, {"uniform", 0}, {"avoiders", 2, 5}, {"isSound"}};
        for (Object[] asked : last) {
            Morphichall hall = new Morphichall();
            for (int call = 1; call <= 511; call++) {
                answer(hall, round[(call - 1) % round.length]);
            }
            is("the 512th call, " + asked[0], answer(hall, asked), answer(new Morphichall(), asked));
        }
    }

    private static String answer(Morphichall hall, Object[] call) {
        return Call.answer(hall, (String) call[0], Arrays.copyOfRange(call, 1, call.length));
    }
}
