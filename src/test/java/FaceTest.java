import java.lang.reflect.Constructor;
import java.lang.reflect.Field;
import java.lang.reflect.Method;
import java.lang.reflect.Modifier;
import java.util.ArrayList;
import java.util.Collections;
import java.util.List;

/** The public face: just the constant, the constructor and the methods of the document. */
final class FaceTest {
    private static final String[] METHODS = {
        "int addVersion(int, int) throws IllegalArgumentException, IllegalStateException",
        "int addFeature(int) throws IllegalArgumentException, IllegalStateException",
        "int put(int, int, boolean) throws IndexOutOfBoundsException, IllegalStateException",
        "int addUser(int, int) throws IndexOutOfBoundsException, IllegalArgumentException, IllegalStateException",
        "int pledge(int, int, int) throws IndexOutOfBoundsException, IllegalArgumentException",
        "int takeBack(int) throws IndexOutOfBoundsException, IllegalStateException",
        "int slip(int, int) throws IndexOutOfBoundsException, IllegalArgumentException, IllegalStateException",
        "int extend(int, int) throws IndexOutOfBoundsException, IllegalArgumentException, IllegalStateException",
        "int addShim(int, int, int, int, int) throws IndexOutOfBoundsException, IllegalArgumentException,"
            + " IllegalStateException",
        "int dropShim(int) throws IndexOutOfBoundsException",
        "int version(int, int) throws IndexOutOfBoundsException, IllegalArgumentException",
        "int user(int, int) throws IndexOutOfBoundsException, IllegalArgumentException",
        "int shim(int, int) throws IndexOutOfBoundsException, IllegalArgumentException",
        "int versionOn(int, int) throws IndexOutOfBoundsException, IllegalArgumentException",
        "int served(int, int, int) throws IndexOutOfBoundsException, IllegalArgumentException",
        "int missing(int, int) throws IndexOutOfBoundsException, IllegalArgumentException",
        "int stranded(int) throws IllegalArgumentException",
        "int costs(int, int) throws IllegalArgumentException",
        "int value(int) throws IllegalArgumentException",
        "int firstStranded(int, int) throws IndexOutOfBoundsException, IllegalArgumentException",
        "int latestMove(int, int, int) throws IndexOutOfBoundsException, IllegalArgumentException",
        "int bestVersion(int, int) throws IndexOutOfBoundsException, IllegalArgumentException",
        "int cheapest(int, int, int) throws IndexOutOfBoundsException, IllegalArgumentException",
        "int shimsNeeded(int) throws IllegalArgumentException",
        "double share(int) throws IllegalArgumentException",
        "int append(int) throws IllegalArgumentException, IllegalStateException",
        "int clearText()",
        "int carryOut()",
        "int undo() throws IllegalStateException",
        "long digest()",
    };

    private static final Check check = new Check("FaceTest");

    public static void main(String[] args) {
        check.equal("modifiers of the class", SunsetDates.class.getModifiers(), Modifier.PUBLIC | Modifier.FINAL);
        check.equal("NONE", SunsetDates.NONE, -1);
        check.equal("methods", sorted(methods()), sorted(List.of(METHODS)));
        check.equal("fields", sorted(fields()), "[public static final int NONE]");
        check.equal("constructors", sorted(constructors()), "[public SunsetDates()]");
        privateNames();
        check.finish();
    }

    private static String sorted(List<String> lines) {
        List<String> sorted = new ArrayList<>(lines);
        Collections.sort(sorted);
        return sorted.toString();
    }

    private static List<String> methods() {
        List<String> lines = new ArrayList<>();
        for (Method method : SunsetDates.class.getDeclaredMethods()) {
            if (!Modifier.isPrivate(method.getModifiers())) {
                String line = method.toGenericString().replace("java.lang.", "").replace("SunsetDates.", "");
                lines.add(line.replace("public ", "").replace(",", ", "));
            }
        }
        return lines;
    }

    private static List<String> fields() {
        List<String> lines = new ArrayList<>();
        for (Field field : SunsetDates.class.getDeclaredFields()) {
            if (!Modifier.isPrivate(field.getModifiers())) {
                lines.add(field.toString().replace("SunsetDates.", ""));
            }
        }
        return lines;
    }

    private static List<String> constructors() {
        List<String> lines = new ArrayList<>();
        for (Constructor<?> constructor : SunsetDates.class.getDeclaredConstructors()) {
            lines.add(constructor.toString());
        }
        return lines;
    }

    /** No private method, of the class or of one inside it, bears the name of a public one. */
    private static void privateNames() {
        List<String> names = new ArrayList<>();
        for (String line : METHODS) {
            names.add(line.substring(line.indexOf(' ') + 1, line.indexOf('(')));
        }
        List<Class<?>> classes = new ArrayList<>(List.of(SunsetDates.class.getDeclaredClasses()));
        for (Class<?> inside : classes) {
            check.equal("static " + inside, Modifier.isStatic(inside.getModifiers()) ? 1 : 0, 1);
            for (Method method : inside.getDeclaredMethods()) {
                check.equal("a public name on " + method, names.contains(method.getName()) ? 1 : 0, 0);
            }
        }
        for (Method method : SunsetDates.class.getDeclaredMethods()) {
            if (Modifier.isPrivate(method.getModifiers())) {
                check.equal("a public name on " + method, names.contains(method.getName()) ? 1 : 0, 0);
            }
        }
    }
}
