import java.util.function.Consumer;

/** Compares answers with the ones that are due, prints what is wrong, and ends the test. */
final class Check {
    private static int wrong = 0;
    private static int asked = 0;

    private Check() {
    }

    /** A call that may throw, with its answer. */
    interface Asked {
        Object on(Morphichall hall);
    }

    static void due(String call, Object got, Object want) {
        asked++;
        if (!String.valueOf(got).equals(String.valueOf(want))) {
            wrong++;
            System.out.println(call + " answered " + got + ", due is " + want);
        }
    }

    /** The answer of a call as a text, the name of the exception if it throws. */
    static String answer(Morphichall hall, Asked call) {
        try {
            return String.valueOf(call.on(hall));
        } catch (RuntimeException e) {
            return "throws." + e.getClass().getSimpleName();
        }
    }

    static void dueThrow(String call, Morphichall hall, Class<? extends RuntimeException> want, Asked made) {
        due(call, answer(hall, made), "throws." + want.getSimpleName());
    }

    /**
     * The call throws what is due, and afterwards all that can be seen of the hall is as if it had not been made:
     * halls are prepared alike, and only some of them get the call.
     */
    static void dueThrowLeavesAll(String call, Consumer<Morphichall> preparation,
            Class<? extends RuntimeException> want, Asked made) {
        dueThrow(call, prepared(preparation), want, made);
        String touched = View.of(() -> {
            Morphichall hall = prepared(preparation);
            answer(hall, made);
            return hall;
        });
        due("all that is seen after " + call, touched, View.of(() -> prepared(preparation)));
    }

    static Morphichall prepared(Consumer<Morphichall> preparation) {
        Morphichall hall = new Morphichall();
        preparation.accept(hall);
        return hall;
    }

    static void end(String name) {
        System.out.println(name + ": " + asked + " answers, " + wrong + " wrong");
        if (wrong != 0) {
            System.exit(1);
        }
    }
}
