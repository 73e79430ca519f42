import java.io.IOException;
import java.lang.reflect.Constructor;
import java.lang.reflect.Executable;
import java.lang.reflect.Field;
import java.lang.reflect.Method;
import java.lang.reflect.Modifier;
import java.nio.file.Files;
import java.nio.file.Path;
import java.util.ArrayList;
import java.util.List;
import java.util.Set;
import java.util.regex.Matcher;
import java.util.regex.Pattern;

/** The rules of LANGUAGE.md, as far as they show in the program's text or in its compiled classes. */
public final class LanguageTest {
    private static final Path PROGRAM = Path.of("src/main/java/ClauseCourt.java");

    // Rule 4: what may stand before a dot, beside variables and the classes inside.
    private static final Set<String> LIBRARY = Set.of("Math.min", "Math.max");

    public static void main(String[] args) throws IOException {
        String text = Files.readString(PROGRAM);
        String code = withoutComments(text);
        List<Class<?>> classes = new ArrayList<>(List.of(ClauseCourt.class.getDeclaredClasses()));
        classes.add(ClauseCourt.class);

        Due.sentence("one file, without a package line", () -> none(code, "(?m)^\\s*package\\b"));
        Due.sentence("rule 1", () -> namesOfItsOwn(classes));
        Due.sentence("rule 2", () -> none(code, "->|::"));
        Due.sentence("rule 4", () -> onlyTheLibrary(code, classes));
        Due.sentence("rule 5", () -> none(code, "\\bstatic\\s*\\{"));
        Due.sentence("rule 6", () -> exceptions(code));
        Due.sentence("rule 10", () -> none(code, "\"\\s*\\+|\\+\\s*\""));
        Due.sentence("rule 11", () -> sizes(text, classes));
        Due.end();
    }

    private static String withoutComments(String text) {
        return text.replaceAll("(?s)/\\*.*?\\*/", "").replaceAll("//[^\\n]*", "");
    }

    private static void none(String code, String pattern) {
        Matcher matcher = Pattern.compile(pattern).matcher(code);
        while (matcher.find()) {
            Due.same(matcher.group() + " at " + matcher.start() + ": allowed", false, true);
        }
    }

    private static void namesOfItsOwn(List<Class<?>> classes) {
        List<String> open = new ArrayList<>();
        for (Method method : ClauseCourt.class.getDeclaredMethods()) {
            if (Modifier.isPublic(method.getModifiers())) {
                open.add(method.getName());
            }
        }
        for (Class<?> holder : classes) {
            for (Method method : holder.getDeclaredMethods()) {
                if (Modifier.isPrivate(method.getModifiers())) {
                    Due.same(method + " bears a public name", open.contains(method.getName()), false);
                }
            }
        }
    }

    private static void onlyTheLibrary(String code, List<Class<?>> classes) {
        List<String> own = new ArrayList<>();
        for (Class<?> holder : classes) {
            own.add(holder.getSimpleName());
        }
        Matcher used = Pattern.compile("\\b([A-Z][A-Za-z]*[a-z][A-Za-z]*)\\.(\\w+)").matcher(code);
        while (used.find()) {
            boolean allowed = own.contains(used.group(1)) || LIBRARY.contains(used.group());
            boolean imported = used.group().startsWith("NoSuchElementException");
            Due.same(used.group() + ": allowed", allowed || imported, true);
        }
        Matcher imports = Pattern.compile("(?m)^import (.*);").matcher(code);
        while (imports.find()) {
            Due.same("the import", imports.group(1), "java.util.NoSuchElementException");
        }
    }

    private static void exceptions(String code) {
        none(code, "\\b(try|catch|finally|synchronized|assert)\\b");
        none(code, "\\bthrow\\b(?! new (IllegalState|IllegalArgument|NoSuchElement)Exception\\(\"[a-z ]+\"\\);)");
        none(code, "\\b(equals|hashCode|toString)\\b");
    }

    private static void sizes(String text, List<Class<?>> classes) {
        Due.same("at most twelve classes", classes.size() <= 12, true);
        for (Class<?> holder : classes) {
            int fields = 0;
            for (Field field : holder.getDeclaredFields()) {
                fields += Modifier.isStatic(field.getModifiers()) ? 0 : 1;
            }
            Due.same(holder + ": at most twenty fields", fields <= 20, true);
            List<Executable> callables = new ArrayList<>(List.of(holder.getDeclaredMethods()));
            for (Constructor<?> constructor : holder.getDeclaredConstructors()) {
                callables.add(constructor);
            }
            for (Executable callable : callables) {
                Due.same(callable + ": at most seven parameters", callable.getParameterCount() <= 7, true);
            }
        }
        shortMethods(text);
    }

    // A method ends with the next brace that stands as far to the right as its first line.
    private static void shortMethods(String text) {
        Matcher method = Pattern.compile("(?ms)^( +)[a-z][^;={}]*\\([^;={}]*\\)[^;={}()]*\\{$.*?^\\1\\}$").matcher(text);
        int methods = 0;
        while (method.find()) {
            methods++;
            String first = method.group().lines().findFirst().orElse("");
            Due.same(first + " at most sixty lines", method.group().lines().count() <= 60, true);
        }
        Due.same("methods are found in the text", methods > 30, true);
    }
}
