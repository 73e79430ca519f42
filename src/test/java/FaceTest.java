import java.lang.reflect.Constructor;
import java.lang.reflect.Field;
import java.lang.reflect.Method;
import java.lang.reflect.Modifier;
import java.util.ArrayList;
import java.util.List;
import java.util.TreeSet;

/** The public face, and nothing else that another class can see but the classes inside. */
public final class FaceTest {
    private static final String[] FACE = {
        "public boolean ClauseCourt.follows(int) throws java.lang.IllegalArgumentException",
        "public boolean ClauseCourt.solve()",
        "public boolean ClauseCourt.value(int) throws java.lang.IllegalArgumentException,java.util.NoSuchElementException",
        "public int ClauseCourt.close() throws java.lang.IllegalStateException",
        "public int ClauseCourt.count(int)",
        "public int ClauseCourt.models()",
        "public int ClauseCourt.variable() throws java.lang.IllegalStateException",
        "public void ClauseCourt.assume(int) throws java.lang.IllegalArgumentException,java.lang.IllegalStateException",
        "public void ClauseCourt.literal(int) throws java.lang.IllegalArgumentException,java.lang.IllegalStateException",
    };

    public static void main(String[] args) {
        Class<?> court = ClauseCourt.class;
        Due.same("public and final", court.getModifiers(), Modifier.PUBLIC | Modifier.FINAL);
        List<String> seen = new ArrayList<>();
        for (Method method : court.getDeclaredMethods()) {
            if (!Modifier.isPrivate(method.getModifiers())) {
                seen.add(method.toString());
            }
        }
        TreeSet<String> odd = new TreeSet<>(seen);
        for (String method : FACE) {
            Due.same(method, seen.contains(method), true);
            odd.remove(method);
        }
        Due.same("methods beside the face " + odd, odd.size(), 0);
        for (Field field : court.getDeclaredFields()) {
            Due.same(field + " is private", Modifier.isPrivate(field.getModifiers()), true);
        }
        for (Constructor<?> constructor : court.getDeclaredConstructors()) {
            Due.same(constructor.toString() + " is the document's", constructor.getParameterCount(), 0);
            Due.same(constructor + " is public", constructor.getModifiers(), Modifier.PUBLIC);
        }
        for (Class<?> inside : court.getDeclaredClasses()) {
            int open = Modifier.PUBLIC | Modifier.PROTECTED;
            Due.same(inside + " is not open", inside.getModifiers() & open, 0);
            Due.same(inside + " is static", Modifier.isStatic(inside.getModifiers()), true);
            onlyConstantsAreStatic(inside);
        }
        onlyConstantsAreStatic(court);
        Due.end();
    }

    // "All memory is the class's own rows": what is static would be shared by all objects.
    private static void onlyConstantsAreStatic(Class<?> holder) {
        for (Field field : holder.getDeclaredFields()) {
            if (Modifier.isStatic(field.getModifiers())) {
                Due.same(field + " is final", Modifier.isFinal(field.getModifiers()), true);
                Due.same(field + " is a number", field.getType() == int.class, true);
            }
        }
    }
}
