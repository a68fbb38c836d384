import java.util.ArrayList;
import java.util.Arrays;
import java.util.LinkedHashMap;
import java.util.LinkedHashSet;
import java.util.List;
import java.util.Map;
import java.util.Set;
import java.util.TreeSet;
import java.util.function.Consumer;

/**
 * All that can be wrong with the calls of a method: halls and arguments that are just right yet, and those that just
 * are not, with the exception that each brings. Every mix of them is called: it throws what the document lists first
 * of all that apply, and changes nothing then.
 */
final class Refusals {
    private static final int CALLS_OF_A_HALL = 400;
    private static final String NOTHING_CHANGES = "Exceptions (A method that throws an exception changes nothing.): ";
    private static final String FIRST_IS_THROWN = "Exceptions (If several exceptions apply, the one that is listed"
            + " first is thrown.): ";
    private static final Set<String> METHODS = new TreeSet<>();

    private final String section;
    private final String method;
    private final List<Place> halls = new ArrayList<>();
    private final List<Argument> arguments = new ArrayList<>();
    private final List<Class<?>> listed = new ArrayList<>();
    private final Set<Set<Class<?>>> apart = new LinkedHashSet<>();
    private final Set<Set<Class<?>>> met = new LinkedHashSet<>();

    Refusals(int promise, String method) {
        this.section = "Promise " + promise;
        this.method = method;
        METHODS.add(method);
        Check.due("the title of " + section, Doc.titleOf(section), method);
        for (String sentence : Doc.allOf(section)) {
            if (sentence.startsWith("Throws `")) {
                listed.add(named(sentence.split("`")[1]));
            }
        }
        Check.due("exceptions as they are listed for " + method, Arrays.asList(Call.listedExceptions(method)), listed);
    }

    /** A method whose calls are mixed elsewhere, since what is right for one argument hangs on another one. */
    static void mixedElsewhere(String method) {
        METHODS.add(method);
    }

    /** The methods whose calls were mixed so. */
    static Set<String> methods() {
        return METHODS;
    }

    private static Class<?> named(String name) {
        try {
            return Class.forName((name.equals("NoSuchElementException") ? "java.util." : "java.lang.") + name);
        } catch (ClassNotFoundException e) {
            throw new IllegalStateException(e);
        }
    }

    /** A hall, and which exceptions it brings to a call that has nothing else wrong. */
    private record Place(String name, Consumer<Morphichall> made, Set<Class<?>> brings) {
    }

    /** A value of an argument, and the exception that it brings, null if it is right. */
    private record Value(Object told, Class<?> brings) {
    }

    /** The values that are mixed with all others, and those that are only tried alone. */
    private record Argument(String name, List<Value> mixed, List<Value> alone) {
    }

    Refusals hall(String name, Consumer<Morphichall> made, Class<?>... brings) {
        halls.add(new Place(name, made, new LinkedHashSet<>(Arrays.asList(brings))));
        return this;
    }

    /** Numbers from the least one to the greatest one are right, all others bring the exception. */
    Refusals range(String name, int least, int greatest, Class<?> brings) {
        Argument argument = argument(name);
        right(least);
        if (greatest != least) {
            right(greatest);
        }
        wrong(brings, least - 1, greatest + 1);
        argument.alone.add(new Value(Integer.MIN_VALUE, brings));
        argument.alone.add(new Value(Integer.MAX_VALUE, brings));
        return this;
    }

    /** These signs are right, all others bring the exception; neighbours are mixed, the others tried alone. */
    Refusals signs(String name, String signs, Class<?> brings) {
        Argument argument = argument(name);
        for (char sign : signs.toCharArray()) {
            right(sign);
        }
        for (int sign = 0; sign <= Character.MAX_VALUE; sign++) {
            if (signs.indexOf(sign) < 0) {
                boolean isNeighbour = signs.indexOf(sign + 1) >= 0 || signs.indexOf(sign - 1) >= 0;
                (isNeighbour ? argument.mixed : argument.alone).add(new Value((char) sign, brings));
            }
        }
        return this;
    }

    private Argument argument(String name) {
        Argument argument = new Argument(name, new ArrayList<>(), new ArrayList<>());
        arguments.add(argument);
        return argument;
    }

    /** Another argument, with what is right for it. */
    Refusals argument(String name, Object... rights) {
        argument(name);
        for (Object told : rights) {
            right(told);
        }
        return this;
    }

    private void right(Object told) {
        arguments.get(arguments.size() - 1).mixed.add(new Value(told, null));
    }

    /** More values of the argument that was named last, which are wrong. */
    Refusals wrong(Class<?> brings, Object... values) {
        for (Object told : values) {
            arguments.get(arguments.size() - 1).mixed.add(new Value(told, brings));
        }
        return this;
    }

    /** These two never apply at once. */
    Refusals never(Class<?> one, Class<?> other) {
        apart.add(Set.of(one, other));
        return this;
    }

    void check() {
        lookAtArguments();
        for (Place place : halls) {
            String untouched = View.of(() -> Check.prepared(place.made));
            mix(place, untouched, new ArrayList<>());
        }
        tryAlone(halls.stream().filter(place -> place.brings.isEmpty()).findFirst().orElseThrow());
        checkPairs();
    }

    private void lookAtArguments() {
        Check.due("how many arguments " + method + " has", arguments.size(), Call.argumentCount(method));
        for (Argument argument : arguments) {
            Doc.lookAt(section, "- `" + argument.name + "`: ");
        }
        for (Class<?> exception : listed) {
            Doc.lookAt(section, "Throws `" + exception.getSimpleName() + "`");
        }
        Doc.lookAt("Exceptions", "A method that throws an exception changes nothing.");
        Doc.lookAt("Exceptions", "If several exceptions apply, the one that is listed first is thrown.");
    }

    private void mix(Place place, String untouched, List<Value> chosen) {
        if (chosen.size() < arguments.size()) {
            for (Value value : arguments.get(chosen.size()).mixed) {
                List<Value> longer = new ArrayList<>(chosen);
                longer.add(value);
                mix(place, untouched, longer);
            }
            return;
        }
        Set<Class<?>> applying = new LinkedHashSet<>(place.brings);
        chosen.stream().filter(value -> value.brings != null).forEach(value -> applying.add(value.brings));
        Object[] told = chosen.stream().map(value -> value.told).toArray();
        Class<?> due = listed.stream().filter(applying::contains).findFirst().orElse(null);
        met.add(applying);
        String name = Call.told(method, told) + " with " + place.name;
        checkAnswer(wordsFor(place, chosen, due) + name, Call.answer(Check.prepared(place.made), method, told), due);
        if (due != null) {
            String touched = View.of(() -> {
                Morphichall hall = Check.prepared(place.made);
                Call.answer(hall, method, told);
                return hall;
            });
            Check.due(NOTHING_CHANGES + name, touched, untouched);
        }
    }

    /** The sentence that the mix is about: that of the one thing that is wrong, or of several that are. */
    private String wordsFor(Place place, List<Value> chosen, Class<?> due) {
        List<String> wrong = new ArrayList<>();
        for (int i = 0; i < chosen.size(); i++) {
            if (chosen.get(i).brings != null) {
                wrong.add("- `" + arguments.get(i).name + "`: ");
            }
        }
        if (!place.brings.isEmpty()) {
            wrong.add("Throws `" + due.getSimpleName() + "`");
        }
        if (wrong.size() > 1 || place.brings.size() > 1) {
            return FIRST_IS_THROWN;
        }
        return section + " (" + (wrong.isEmpty() ? "all is right" : Doc.sentence(section, wrong.get(0))) + "): ";
    }

    private void checkAnswer(String name, String answer, Class<?> due) {
        if (due == null) {
            Check.due(name + " throws", answer.startsWith("throws."), false);
        } else {
            Check.due(name, answer, Call.thrown(due));
        }
    }

    /** Each value that is far from what is right, all else being right; a hall gets some hundreds of them. */
    private void tryAlone(Place place) {
        String untouched = View.of(() -> Check.prepared(place.made));
        for (int at = 0; at < arguments.size(); at++) {
            List<Value> values = arguments.get(at).alone;
            for (int from = 0; from < values.size(); from += CALLS_OF_A_HALL) {
                tryAlone(place, at, values.subList(from, Math.min(values.size(), from + CALLS_OF_A_HALL)));
            }
            if (!values.isEmpty()) {
                int last = at;
                String touched = View.of(() -> tryAlone(place, last, values.subList(0, 2)));
                Check.due(NOTHING_CHANGES + method + ", " + arguments.get(at).name, touched, untouched);
            }
        }
    }

    private Morphichall tryAlone(Place place, int at, List<Value> values) {
        Morphichall hall = Check.prepared(place.made);
        Object[] told = arguments.stream().map(argument -> argument.mixed.get(0).told).toArray();
        String words = section + " (" + Doc.sentence(section, "- `" + arguments.get(at).name + "`: ") + "): ";
        for (Value value : values) {
            told[at] = value.told;
            checkAnswer(words + Call.told(method, told) + " with " + place.name, Call.answer(hall, method, told),
                    value.brings);
        }
        return hall;
    }

    /** Each exception was met alone, and each two of them at once that can be so. */
    private void checkPairs() {
        for (int i = 0; i < listed.size(); i++) {
            Check.due(section + ": " + listed.get(i) + " alone is met", met.contains(Set.of(listed.get(i))), true);
            for (int j = 0; j < i; j++) {
                Set<Class<?>> pair = Set.of(listed.get(j), listed.get(i));
                Check.due(section + ": both of " + pair + " are met", met.contains(pair), !apart.contains(pair));
            }
        }
        Check.due(section + ": a call that is right is met", met.contains(Set.of()), true);
    }
}
