import java.lang.reflect.Constructor;
import java.lang.reflect.Field;
import java.lang.reflect.Method;
import java.lang.reflect.Modifier;
import java.util.Arrays;
import java.util.List;
import java.util.Set;
import java.util.TreeSet;

/** The class has the document's face, and shows nothing else. */
final class FaceTest {
    private static final String[] FACE = {
        "int type(char) IAE ISE", "int wipe()", "int morphism(int) IAE ISE", "int setImage(int,char) IOE IAE",
        "int uniform(int) IOE", "boolean isPrimitive(int) IOE", "long grown(int,char,int) IOE IAE",
        "int fixed(int) IOE UOE ISE", "int slopeNumber(int) IAE ISE", "int slope() UOE ISE",
        "int automaton(int,int) IAE ISE", "int automatonOf(int) IOE UOE ISE",
        "int arrow(int,int,int,int) IOE UOE IAE", "char give(int,int,char) IOE UOE IAE", "int sequences()",
        "char letterAt(int,int) IOE IAE", "int least(int) IOE UOE", "int kernel(int,int) IOE UOE IAE",
        "int digits(char,int) IAE", "int digitAt(char,int,int) IAE", "boolean isLost(int,int) IAE",
        "int equal(int,int) IAE ISE", "int less(int,int) IAE ISE", "int sum(int,int,int) IAE ISE",
        "int number(int,int) IAE ISE", "int letterIs(int,int,char) IOE UOE IAE ISE",
        "int same(int,int,int) IOE UOE IAE ISE", "int join(boolean) NSE UOE", "int not() NSE",
        "int exists(int) IAE NSE UOE", "int forAll(int) IAE NSE UOE", "int drop() NSE", "int free() NSE",
        "int states() NSE", "boolean isTrue() NSE UOE", "boolean holds(int,int,int,int,int) IAE NSE",
        "int count(int,int) IAE NSE", "int pieces(int,int) IOE IAE", "int piecesByCounts(int,int) IOE IAE",
        "int palindromes(int,int) IOE IAE", "float exponent(int,int) IOE IAE", "int regular(int) IAE ISE",
        "int entry(int,char,int,int,int) IOE IAE", "int added(int,int) IOE UOE ISE", "long term(int,int) IOE IAE",
        "int avoiders(int,int) IAE NSE", "int command(char,char) IAE", "int path(int,int,char) IOE IAE",
        "double meanLetter(int,int) IOE IAE", "long checksum()", "boolean isSound()",
    };

    public static void main(String[] args) {
        Check.due("public and final", Modifier.toString(Morphichall.class.getModifiers()), "public final");
        Check.due("its constructors", Arrays.toString(Morphichall.class.getConstructors()),
                "[public Morphichall()]");
        Set<String> shown = new TreeSet<>();
        Set<String> names = new TreeSet<>();
        for (Method method : Morphichall.class.getDeclaredMethods()) {
            if (!Modifier.isPrivate(method.getModifiers())) {
                shown.add(Modifier.toString(method.getModifiers()) + " " + told(method));
                names.add(method.getName());
            }
        }
        Set<String> due = new TreeSet<>();
        for (String line : FACE) {
            due.add("public " + line);
        }
        Check.due("its methods", shown, due);
        nothingElse(names);
        Check.end("FaceTest");
    }

    private static String told(Method method) {
        StringBuilder out = new StringBuilder(method.getReturnType() + " " + method.getName() + "(");
        List<String> types = Arrays.stream(method.getParameterTypes()).map(Class::getName).toList();
        out.append(String.join(",", types)).append(')');
        for (Class<?> thrown : method.getExceptionTypes()) {
            out.append(' ').append(thrown.getSimpleName().replaceAll("IndexOut.*", "IOE")
                    .replaceAll("IllegalArg.*", "IAE").replaceAll("IllegalState.*", "ISE")
                    .replaceAll("Unsupp.*", "UOE").replaceAll("NoSuch.*", "NSE"));
        }
        return out.toString();
    }

    private static void nothingElse(Set<String> names) {
        for (Field field : Morphichall.class.getDeclaredFields()) {
            Check.due("private: " + field, Modifier.isPrivate(field.getModifiers()), true);
        }
        Check.due("classes, with its own", Morphichall.class.getDeclaredClasses().length + 1 <= 12, true);
        for (Class<?> inner : Morphichall.class.getDeclaredClasses()) {
            Check.due("static: " + inner, Modifier.isStatic(inner.getModifiers()), true);
            Check.due("not public: " + inner, Modifier.isPublic(inner.getModifiers()), false);
            for (Method method : inner.getDeclaredMethods()) {
                Check.due("a name of its own: " + method, names.contains(method.getName()), false);
            }
            for (Constructor<?> made : inner.getDeclaredConstructors()) {
                Check.due("not public: " + made, Modifier.isPublic(made.getModifiers()), false);
            }
        }
        for (Method method : Morphichall.class.getDeclaredMethods()) {
            if (Modifier.isPrivate(method.getModifiers())) {
                Check.due("a name of its own: " + method, names.contains(method.getName()), false);
            }
        }
    }
}
