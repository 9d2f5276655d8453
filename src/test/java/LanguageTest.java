import java.lang.reflect.Constructor;
import java.lang.reflect.Field;
import java.lang.reflect.Method;
import java.lang.reflect.Modifier;
import java.nio.file.Files;
import java.nio.file.Path;
import java.util.ArrayList;
import java.util.List;
import java.util.Set;
import java.util.TreeSet;
import java.util.regex.Matcher;
import java.util.regex.Pattern;

/** The rules of LANGUAGE.md that can be read off the compiled class or its text; FaceTest has the face and single words. */
public final class LanguageTest {
    private static final Set<String> LIBRARY = Set.of(
            "Math.abs", "Math.min", "Math.max", "System.arraycopy", "WORDS.indexOf");
    private static final Set<Class<?>> NUMBERS = Set.of(
            int.class, long.class, short.class, byte.class, char.class, boolean.class);
    private static final Pattern METHOD = Pattern.compile("( +)[\\w\\[\\]<> ]+\\([^()]*\\) \\{");
    private static final Pattern OF_LIBRARY = Pattern.compile("\\b([A-Z]\\w*\\.[a-z]\\w*)\\(");

    private static final List<Class<?>> CLASSES = new ArrayList<>();

    public static void main(String[] args) throws Exception {
        CLASSES.add(ThreeBelow.class);
        CLASSES.addAll(List.of(ThreeBelow.class.getDeclaredClasses()));
        classesInside();
        typesOfFields();
        staticFields();
        namesOfMethods();
        parameters();
        String source = Files.readString(Path.of("src/main/java/ThreeBelow.java"));
        lengthOfMethods(source);
        library(source);
        signs(source);
        Check.end();
    }

    private static void isTrue(String what, boolean is) {
        Check.due(what, is ? 1 : 0, 1);
    }

    /** Rules 1, 2, 11: static classes, none within those, some twelve. */
    private static void classesInside() {
        isTrue("twelve classes at most", CLASSES.size() <= 12);
        for (Class<?> c : CLASSES.subList(1, CLASSES.size())) {
            isTrue(c + " is static", Modifier.isStatic(c.getModifiers()));
            isTrue(c + " is not open", !Modifier.isPublic(c.getModifiers()) && !Modifier.isProtected(c.getModifiers()));
            isTrue(c + " has none within", c.getDeclaredClasses().length == 0);
        }
    }

    private static boolean isAllowed(Class<?> type) {
        if (type.isArray()) {
            Class<?> part = type.getComponentType();
            Class<?> of = part.isArray() ? part.getComponentType() : part;
            return NUMBERS.contains(of) || !part.isArray() && CLASSES.contains(part);
        }
        return NUMBERS.contains(type) || CLASSES.contains(type) || type == String.class;
    }

    /** Rules 3, 11: types that are allowed, some twenty fields beside constants. */
    private static void typesOfFields() {
        for (Class<?> c : CLASSES) {
            int fields = 0;
            for (Field f : c.getDeclaredFields()) {
                isTrue(f + " has a type that is allowed", isAllowed(f.getType()));
                fields += Modifier.isStatic(f.getModifiers()) ? 0 : 1;
            }
            isTrue(c + " has twenty fields at most", fields <= 20);
        }
    }

    /** Rule 5: static fields are final, numbers or texts or rows of numbers. */
    private static void staticFields() {
        Set<Class<?>> types = Set.of(int.class, long.class, boolean.class, char.class, String.class,
                int[].class, long[].class, char[].class, byte[].class);
        for (Class<?> c : CLASSES) {
            for (Field f : c.getDeclaredFields()) {
                if (Modifier.isStatic(f.getModifiers())) {
                    isTrue(f + " is final", Modifier.isFinal(f.getModifiers()));
                    isTrue(f + " is a constant", types.contains(f.getType()));
                }
            }
        }
    }

    /** Rules 1, 6: no private method bears the name of a public one; no equals, hashCode, toString. */
    private static void namesOfMethods() {
        TreeSet<String> open = new TreeSet<>(Set.of("equals", "hashCode", "toString"));
        for (Method m : ThreeBelow.class.getDeclaredMethods()) {
            if (Modifier.isPublic(m.getModifiers())) {
                open.add(m.getName());
            }
        }
        for (Class<?> c : CLASSES) {
            for (Method m : c.getDeclaredMethods()) {
                boolean isFace = c == ThreeBelow.class && Modifier.isPublic(m.getModifiers());
                isTrue(m + " has a name of its own", isFace || !open.contains(m.getName()));
            }
        }
    }

    /** Rule 11: seven parameters at most. */
    private static void parameters() {
        for (Class<?> c : CLASSES) {
            for (Method m : c.getDeclaredMethods()) {
                isTrue(m + " has few parameters", m.getParameterCount() <= 7);
            }
            for (Constructor<?> m : c.getDeclaredConstructors()) {
                isTrue(m + " has few parameters", m.getParameterCount() <= 7);
            }
        }
    }

    /** Rule 11: methods of some sixty lines at most. */
    private static void lengthOfMethods(String source) {
        String[] lines = source.split("\n");
        int methods = 0;
        for (int i = 0; i < lines.length; i++) {
            Matcher m = METHOD.matcher(lines[i]);
            if (m.matches() && (m.group(1).length() == 4 || m.group(1).length() == 8 && !lines[i].contains(" if "))) {
                int end = i;
                while (end < lines.length && !lines[end].equals(m.group(1) + "}")) {
                    end++;
                }
                methods++;
                isTrue("line " + (i + 1) + " begins a short method", end - i < 60);
            }
        }
        isTrue("methods are seen", methods > 60);
    }

    /** Rule 4: nothing of the library but what this list has of it. */
    private static void library(String source) {
        Matcher m = OF_LIBRARY.matcher(source);
        while (m.find()) {
            isTrue(m.group(1) + " is allowed", LIBRARY.contains(m.group(1)));
        }
    }

    /** Rule 4: signs are 1 to 127. */
    private static void signs(String source) {
        int others = 0;
        for (int i = 0; i < source.length(); i++) {
            others += source.charAt(i) > 127 ? 1 : 0;
        }
        Check.due("other signs", others, 0);
    }
}
