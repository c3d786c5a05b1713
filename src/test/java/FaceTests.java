import java.lang.reflect.Constructor;
import java.lang.reflect.Field;
import java.lang.reflect.Method;
import java.lang.reflect.Modifier;
import java.util.Arrays;
import java.util.Set;
import java.util.TreeSet;

/** The public face: all that the document gives, and no more. */
public final class FaceTests {
    private FaceTests() {
    }

    public static void main(String[] args) {
        Set<String> due = new TreeSet<>(Arrays.asList(
            "int guest(int, int, int, int, int)", "int of(int, int) I",
            "int feed(int, int, int, int, int)", "boolean end(int)", "int load()", "int fault(int)",
            "int look(int)", "boolean lay(int)", "int place(int)", "int orders()", "boolean pick(int)",
            "int rank()", "int best()", "int noise()", "int why(int)", "boolean road(int, int)",
            "boolean wire(int, int)", "boolean stand(int, int)", "int passes(int) I", "boolean begin()",
            "int run(int) N", "int minute() N", "int at(int, int) I N", "int who(int) N", "int hole() N",
            "int rowLong() N", "int ends(int) N", "boolean ill(int) I N"));
        Set<String> found = new TreeSet<>();
        Set<String> hidden = new TreeSet<>();
        for (Method m : CarnivalRoad.class.getDeclaredMethods()) {
            if (Modifier.isPrivate(m.getModifiers())) {
                hidden.add(m.getName());
            } else if (!m.isSynthetic()) {
                found.add(shown(m));
            }
        }
        same("methods", found, due);
        for (Method m : CarnivalRoad.class.getMethods()) {
            Check.no(m.getName() + " has a private one of its name", hidden.contains(m.getName()));
        }
        Constructor<?>[] constructors = CarnivalRoad.class.getDeclaredConstructors();
        Check.same("constructors", constructors.length, 1);
        Check.yes("public one", Modifier.isPublic(constructors[0].getModifiers()));
        Set<String> fields = new TreeSet<>();
        for (Field f : CarnivalRoad.class.getDeclaredFields()) {
            if (!Modifier.isPrivate(f.getModifiers())) {
                fields.add(Modifier.toString(f.getModifiers()) + " " + f.getType() + " " + f.getName());
            }
        }
        same("fields", fields, new TreeSet<>(Arrays.asList("public static final int NONE")));
        Check.same("the class", CarnivalRoad.class.getModifiers(), Modifier.PUBLIC | Modifier.FINAL);
        Check.close("FaceTests");
    }

    private static String shown(Method m) {
        StringBuilder text = new StringBuilder(m.getReturnType() + " " + m.getName() + "(");
        for (Class<?> type : m.getParameterTypes()) {
            text.append(text.charAt(text.length() - 1) == '(' ? "" : ", ").append(type);
        }
        text.append(")");
        for (Class<?> type : m.getExceptionTypes()) {
            text.append(" ").append(type.getSimpleName().charAt(0));
        }
        return text.toString();
    }

    private static void same(String what, Set<String> found, Set<String> due) {
        for (String one : due) {
            Check.yes(what + " have '" + one + "'", found.contains(one));
        }
        for (String one : found) {
            Check.yes(what + " may have '" + one + "'", due.contains(one));
        }
    }
}
