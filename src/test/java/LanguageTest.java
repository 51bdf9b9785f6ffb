import java.io.IOException;
import java.lang.reflect.Constructor;
import java.lang.reflect.Field;
import java.lang.reflect.Method;
import java.lang.reflect.Modifier;
import java.nio.file.Files;
import java.nio.file.Path;
import java.util.ArrayList;
import java.util.List;
import java.util.TreeSet;
import java.util.regex.Matcher;
import java.util.regex.Pattern;

/** Rules of ../shared/LANGUAGE.md that can be looked at without much: the face, words left out, sizes. */
public final class LanguageTest {
    private static final String[] LEFT_OUT = {"\\bthrows?\\b", "\\btry\\b", "\\bcatch\\b", "\\bsynchronized\\b",
        "\\bassert\\b", "\\bimport\\b", "\\bpackage\\b", "->", "::", "Exact\\b", "@", "\\bException\\b",
        "\\bhashCode\\b", "\\btoString\\b", "\\bObject\\b", "\\bdouble\\b", "\\bfloat\\b", "[^\\x00-\\x7f]"};

    public static void main(String[] args) throws IOException {
        String source = Files.readString(Path.of("src/main/java/ThriceCounted.java"));
        String code = source.replaceAll("(?s)/\\*.*?\\*/", "").replaceAll("//[^\n]*", "");
        wordsLeftOut(code);
        library(code);
        methodsAreShort(source);
        face(Files.readString(Path.of("../shared/DOC.md")));
        membersOfTheClass();
        classesInside();
        fieldsOf(ThriceCounted.class);
        for (Class<?> one : ThriceCounted.class.getDeclaredClasses()) {
            fieldsOf(one);
        }
        Check.finish("LanguageTest");
    }

    /** Rule 4: of the library's static functions these few alone. */
    private static void library(String code) {
        Pattern call = Pattern.compile("\\b(Math|System|Arrays|Integer|Long|String|List)\\s*\\.\\s*\\w+");
        Matcher matcher = call.matcher(code);
        TreeSet<String> used = new TreeSet<>();
        while (matcher.find()) {
            used.add(matcher.group());
        }
        used.removeAll(List.of("Math.max", "Math.min", "Math.abs", "System.arraycopy"));
        Check.due("library " + used, used.size(), 0);
    }

    private static void wordsLeftOut(String code) {
        for (String word : LEFT_OUT) {
            Check.due("left out: " + word, Pattern.compile(word).matcher(code).results().count(), 0);
        }
    }

    /** A method of a class begins at 4 or 8 blanks and ends at a brace behind as many. */
    private static void methodsAreShort(String source) {
        Pattern method = Pattern.compile("(?ms)^( {4}| {8})(?! )[\\w\\[\\] ]+\\([^)]*\\) \\{$.*?^\\1\\}$");
        Matcher matcher = method.matcher(source);
        int many = 0;
        while (matcher.find()) {
            many++;
            long lines = matcher.group().lines().count();
            if (lines > 60) {
                Check.due("lines of " + matcher.group().lines().findFirst().orElse("").trim(), lines, 60);
            }
        }
        Check.due("methods seen", many > 80 ? 1 : 0, 1);
    }

    private static void face(String document) {
        TreeSet<String> due = new TreeSet<>();
        Matcher matcher = Pattern.compile("    public (int|long) (\\w+)\\(([^)]*)\\);").matcher(document);
        while (matcher.find()) {
            due.add(matcher.group(1) + " " + matcher.group(2) + "("
                    + matcher.group(3).replaceAll("(int|long) \\w+", "$1") + ")");
        }
        TreeSet<String> has = new TreeSet<>();
        for (Method method : ThriceCounted.class.getDeclaredMethods()) {
            if (Modifier.isPublic(method.getModifiers())) {
                List<String> types = new ArrayList<>();
                for (Class<?> type : method.getParameterTypes()) {
                    types.add(type.getSimpleName());
                }
                has.add(method.getReturnType() + " " + method.getName() + "(" + String.join(", ", types) + ")");
            }
        }
        Check.due("methods of the document", due.size(), 35);
        Check.due("the face is the document's: " + has, has.equals(due) ? 1 : 0, 1);
    }

    private static void membersOfTheClass() {
        int modifiers = ThriceCounted.class.getModifiers();
        Check.due("public final", modifiers, Modifier.PUBLIC | Modifier.FINAL);
        TreeSet<String> open = new TreeSet<>();
        for (Method method : ThriceCounted.class.getDeclaredMethods()) {
            if (Modifier.isPublic(method.getModifiers())) {
                open.add(method.getName());
            }
        }
        for (Method method : ThriceCounted.class.getDeclaredMethods()) {
            boolean isPrivate = Modifier.isPrivate(method.getModifiers());
            boolean isOpen = open.contains(method.getName());
            Check.due(method.getName() + " is public or private", isPrivate != isOpen ? 1 : 0, 1);
        }
        TreeSet<String> constants = new TreeSet<>();
        for (Field field : ThriceCounted.class.getDeclaredFields()) {
            if (!Modifier.isPrivate(field.getModifiers())) {
                constants.add(field.getName());
            }
        }
        TreeSet<String> due = new TreeSet<>(List.of("NONE", "BAD", "NO", "FULL"));
        Check.due("constants " + constants, constants.equals(due) ? 1 : 0, 1);
        Constructor<?>[] constructors = ThriceCounted.class.getDeclaredConstructors();
        Check.due("constructors", constructors.length, 1);
        Check.due("its parameters", constructors[0].getParameterCount(), 0);
    }

    /** Rules 5 and 11: static fields are final constants, and an object has some twenty fields at most. */
    private static void fieldsOf(Class<?> one) {
        List<Class<?>> constants = List.of(int.class, long.class, boolean.class, char.class, String.class, int[].class,
                long[].class, char[].class, byte[].class);
        int many = 0;
        for (Field field : one.getDeclaredFields()) {
            if (!Modifier.isStatic(field.getModifiers())) {
                many++;
                continue;
            }
            Check.due(field + " is final", Modifier.isFinal(field.getModifiers()) ? 1 : 0, 1);
            Check.due(field + " is a constant", constants.contains(field.getType()) ? 1 : 0, 1);
        }
        Check.due(one + " has twenty fields at most", many <= 20 ? 1 : 0, 1);
    }

    private static void classesInside() {
        Class<?>[] inside = ThriceCounted.class.getDeclaredClasses();
        Check.due("twelve classes at most", inside.length + 1 <= 12 ? 1 : 0, 1);
        TreeSet<String> open = new TreeSet<>();
        for (Method method : ThriceCounted.class.getMethods()) {
            open.add(method.getName());
        }
        for (Class<?> one : inside) {
            Check.due(one + " is static", Modifier.isStatic(one.getModifiers()) ? 1 : 0, 1);
            Check.due(one + " is not open", one.getModifiers() & (Modifier.PUBLIC | Modifier.PROTECTED), 0);
            for (Method method : one.getDeclaredMethods()) {
                Check.due(method + " bears no public name", open.contains(method.getName()) ? 1 : 0, 0);
                Check.due(method + " has seven parameters at most", method.getParameterCount() <= 7 ? 1 : 0, 1);
            }
        }
    }
}
