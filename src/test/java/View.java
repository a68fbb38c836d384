import java.util.function.Supplier;

/**
 * Tells as one text what can be seen of a hall by its calls. Looking uses a hall up, so that there are three looks,
 * each at a hall that was made anew, and each of so few calls that no hall comes to more than 512.
 */
final class View {
    private static final int MOST_CALLS = 380;

    private final Morphichall hall;
    private final StringBuilder seen = new StringBuilder();
    private int calls;

    private View(Morphichall hall) {
        this.hall = hall;
    }

    static String of(Supplier<Morphichall> halls) {
        View first = new View(halls.get());
        first.seeFormulas();
        first.seeNumbers();
        View second = new View(halls.get());
        second.seeTexts();
        second.seeArrows();
        second.seeTurtle();
        View third = new View(halls.get());
        third.seeWord();
        third.seeMorphisms();
        third.seeSlopeRow();
        return first.told() + second.told() + third.told();
    }

    private String told() {
        Check.due("looks of few calls: " + calls, calls <= MOST_CALLS, true);
        return seen.toString();
    }

    /** Whether the call has an answer; the answer is kept. */
    private boolean see(String name, Object... arguments) {
        String answer = Call.answer(hall, name, arguments);
        seen.append(Call.told(name, arguments)).append('=').append(answer).append(' ');
        calls++;
        return !answer.startsWith("throws.");
    }

    private void seeFormulas() {
        see("isSound");
        while (see("free")) {
            see("states");
            see("isTrue");
            see("holds", 1, 2, 3, 4, 5);
            see("holds", 9, 2, 11, 700, 0);
            for (int x = 0; x < 5; x++) {
                see("count", x, 100);
            }
            see("exists", 0);
            see("forAll", 1);
            see("count", 2, 50);
            see("drop");
        }
    }

    private void seeNumbers() {
        for (int number = 0; see("term", number, 5); number++) {
            see("term", number, 1000);
            for (int i = 0; see("entry", number, 'l', 0, i, 1); i++) {
                see("entry", number, 'r', i, 0, 1);
                for (int j = 0; see("entry", number, '0', i, j, 1); j++) {
                    see("entry", number, '1', i, j, 1);
                }
            }
        }
        see("regular", 1);
    }

    private void seeTexts() {
        see("sequences");
        see("checksum");
        for (int number = 0; see("pieces", number, 5); number++) {
            see("meanLetter", number, 1000);
            see("letterAt", number, 1023);
            see("letterAt", number, 1024);
            see("least", number);
            see("kernel", number, 1);
            for (char what : new char[] {'x', 'y', 'n'}) {
                see("path", number, 100, what);
            }
        }
    }

    private void seeArrows() {
        for (int number = 0; number < 8; number++) {
            for (int state = 0; see("give", number, state, 'a'); state++) {
                for (int digit = 0; see("arrow", number, state, digit, 0); digit++) {
                    continue;
                }
            }
        }
    }

    private void seeTurtle() {
        for (char letter = 'a'; letter <= 'd'; letter++) {
            see("command", letter, '-');
        }
    }

    private void seeWord() {
        see("avoiders", 2, 8);
        see("avoiders", 3, 6);
        see("morphism", 4);
        see("setImage", 0, 'b');
        see("setImage", 5, 'd');
        see("wipe");
    }

    private void seeMorphisms() {
        for (int number = 0; see("uniform", number); number++) {
            see("isPrimitive", number);
            for (char letter = 'a'; see("grown", number, letter, 1); letter++) {
                see("grown", number, letter, 2);
                see("grown", number, letter, 7);
            }
            see("fixed", number);
            see("automatonOf", number);
        }
        see("checksum");
    }

    private void seeSlopeRow() {
        see("slopeNumber", 9);
        see("slope");
        see("checksum");
    }
}
