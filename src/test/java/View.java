import java.util.List;
import java.util.function.Consumer;
import java.util.function.Supplier;

/**
 * Tells as one text what can be seen of a hall by its calls. Looking uses a hall up, so that there are some looks,
 * each at a hall that was made anew, and each of so few calls that no hall comes to more than 512. A look makes no
 * call that is refused before it has seen what it looks at.
 */
final class View {
    private static final int MOST_CALLS = 380;

    private final Morphichall hall;
    private final StringBuilder seen = new StringBuilder();
    private int calls;

    private View(Morphichall hall) {
        this.hall = hall;
    }

    static String of(Supplier<Morphichall> halls) {
        StringBuilder out = new StringBuilder();
        List<Consumer<View>> looks = List.of(View::seeFormulas, View::seeNumbers, View::seeSequences,
                View::seeMorphisms, View::seeWordAndRow);
        for (Consumer<View> look : looks) {
            View view = new View(halls.get());
            look.accept(view);
            out.append(view.told()).append('\n');
        }
        return out.toString();
    }

    private String told() {
        Check.due("looks of few calls: " + calls, calls <= MOST_CALLS, true);
        return seen.toString();
    }

    /** Whether the call has an answer; the answer is kept. */
    private boolean see(String name, Object... arguments) {
        String answer = Call.answer(hall, name, arguments);
        seen.append(Call.told(name, arguments)).append('=').append(answer).append(' ');
        calls++;
        return !answer.startsWith("throws.");
    }

    private void seeFormulas() {
        see("isSound");
        while (see("free")) {
            see("states");
            see("isTrue");
            see("holds", 1, 2, 3, 4, 5);
            see("holds", 9, 2, 11, 700, 0);
            for (int x = 0; x < 5; x++) {
                see("count", x, 100);
            }
            see("exists", 0);
            see("forAll", 1);
            see("count", 2, 50);
            see("drop");
        }
    }

    private void seeNumbers() {
        for (int number = 0; see("term", number, 5); number++) {
            see("term", number, 1000);
            for (int i = 0; see("entry", number, 'l', 0, i, 1); i++) {
                see("entry", number, 'r', i, 0, 1);
                for (int j = 0; see("entry", number, '0', i, j, 1); j++) {
                    see("entry", number, '1', i, j, 1);
                }
            }
        }
        see("regular", 1);
    }

    private void seeSequences() {
        see("sequences");
        see("checksum");
        int count = hall.sequences();
        for (int number = 0; number < count; number++) {
            seeText(number);
            for (char what : new char[] {'x', 'y', 'n'}) {
                see("path", number, 100, what);
            }
        }
        for (int number = 0; number < count; number++) {
            for (int state = 0; see("give", number, state, 'a'); state++) {
                for (int digit = 0; see("arrow", number, state, digit, 0); digit++) {
                    continue;
                }
            }
        }
        for (char letter = 'a'; letter <= 'd'; letter++) {
            see("command", letter, '-');
        }
    }

    private void seeText(int number) {
        see("meanLetter", number, 1000);
        see("pieces", number, 12);
        see("palindromes", number, 4);
        see("exponent", number, 120);
        see("letterAt", number, 1023);
    }

    private void seeMorphisms() {
        for (int number = 0; see("uniform", number); number++) {
            see("isPrimitive", number);
            for (char letter = 'a'; see("grown", number, letter, 1); letter++) {
                see("grown", number, letter, 2);
                see("grown", number, letter, 7);
            }
        }
        for (int number = 0; number < 6; number++) {
            see("automatonOf", number);
            see("fixed", number);
        }
        see("checksum");
        see("morphism", 4);
    }

    /** The word becomes the image of b, behind a, in a morphism whose fixed word then shows it. */
    private void seeWordAndRow() {
        see("avoiders", 2, 8);
        see("avoiders", 3, 6);
        int shown = hall.sequences();
        if (see("slope")) {
            for (int place = 0; place < 1024; place += 5) {
                see("letterAt", shown, place);
            }
            shown++;
        }
        see("slopeNumber", 9);
        int number = 0;
        while (!Call.answer(hall, "uniform", number).startsWith("throws.")) {
            number++;
        }
        number = see("morphism", 4) ? number : 0;
        see("setImage", number, 'b');
        see("wipe");
        see("type", 'a');
        see("type", 'b');
        see("setImage", number, 'a');
        if (see("fixed", number)) {
            for (int place = 0; place < 12; place++) {
                see("letterAt", shown, place);
            }
        }
    }
}
