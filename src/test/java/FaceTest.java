import java.lang.reflect.Constructor;
import java.lang.reflect.Field;
import java.lang.reflect.Method;
import java.lang.reflect.Modifier;
import java.util.ArrayList;
import java.util.HashSet;
import java.util.List;
import java.util.Set;
import java.util.TreeSet;

/** The public face: just what the document lists, and nothing else that is not private. */
public final class FaceTest {
    private static final String INDEX = "IndexOutOfBoundsException";
    private static final String TURN = "IllegalStateException";
    private static final String RANGE = "IllegalArgumentException";
    private static final String MEANING = "UnsupportedOperationException";

    private static final Set<String> FACE = Set.of(
            told("int", "row(int, int)", RANGE, MEANING),
            told("void", "section(int, int)", RANGE),
            told("long", "slope(int, int, int)", INDEX, RANGE, MEANING),
            told("long", "offset(int, int)", INDEX, TURN, RANGE),
            told("int", "peak(int)", INDEX, TURN),
            told("long", "stretch(int, int, int)", INDEX, RANGE),
            told("int", "impact(int, int)", RANGE, MEANING),
            told("long", "fitted(int, int)", INDEX, TURN, RANGE),
            told("int", "table(int, int)", RANGE, MEANING),
            told("int", "convert(int, int)", INDEX, TURN, RANGE, MEANING),
            told("long", "round(long, long, int)", INDEX, RANGE),
            told("boolean", "machine(int, int)", RANGE),
            told("int", "invalid()"),
            told("void", "clear()"));

    public static void main(String[] args) {
        Due due = new Due();
        Class<StrainRows> face = StrainRows.class;
        due.holds("public and final", face.getModifiers() == (Modifier.PUBLIC | Modifier.FINAL));
        Constructor<?>[] constructors = face.getDeclaredConstructors();
        due.holds("one public constructor without parameters", constructors.length == 1
                && Modifier.isPublic(constructors[0].getModifiers()) && constructors[0].getParameterCount() == 0);
        methods(due, face);
        for (Field field : face.getDeclaredFields()) {
            int modifiers = field.getModifiers();
            due.holds("private: " + field, Modifier.isPrivate(modifiers));
            due.holds("no static state: " + field, !Modifier.isStatic(modifiers) || Modifier.isFinal(modifiers));
        }
        due.end();
    }

    private static void methods(Due due, Class<?> face) {
        Set<String> seen = new HashSet<>();
        Set<String> publicNames = new HashSet<>();
        List<Method> hidden = new ArrayList<>();
        for (Method method : face.getDeclaredMethods()) {
            if (method.getModifiers() == Modifier.PUBLIC) {
                seen.add(told(method));
                publicNames.add(method.getName());
            } else {
                hidden.add(method);
            }
        }
        due.holds("the methods of the document: " + new TreeSet<>(seen), seen.equals(FACE));
        for (Method method : hidden) {
            due.holds("private: " + method, Modifier.isPrivate(method.getModifiers()));
            due.holds("no public name: " + method, !publicNames.contains(method.getName()));
        }
    }

    private static String told(Method method) {
        List<String> kinds = new ArrayList<>();
        for (Class<?> kind : method.getParameterTypes()) {
            kinds.add(kind.getSimpleName());
        }
        String[] thrown = new String[method.getExceptionTypes().length];
        for (int i = 0; i < thrown.length; i++) {
            thrown[i] = method.getExceptionTypes()[i].getSimpleName();
        }
        return told(method.getReturnType().getSimpleName(),
                method.getName() + "(" + String.join(", ", kinds) + ")", thrown);
    }

    private static String told(String answer, String call, String... thrown) {
        return answer + " " + call + " throws " + new TreeSet<>(List.of(thrown));
    }
}
