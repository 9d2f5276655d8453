import java.lang.reflect.Constructor;
import java.lang.reflect.Field;
import java.lang.reflect.Method;
import java.lang.reflect.Modifier;
import java.nio.file.Files;
import java.nio.file.Path;
import java.util.Arrays;
import java.util.TreeSet;
import java.util.regex.Matcher;
import java.util.regex.Pattern;

/** The class has the document's face and no more, and its text keeps clear of what LANGUAGE.md rules out by a word. */
public final class FaceTest {
    private static final String[] FACE = {
        "feed 1", "shore 0", "fault 0", "told 1", "depth 1", "person 2", "good 2", "year 1", "down 2", "up 1", "open 1",
        "take 1", "drift 1", "undo 0", "meet 5", "both 3", "leave 2", "when 2", "letters 2", "wouldOpen 1",
        "yearsLeft 1", "latest 0", "storm 2", "find 3", "stays 1", "ask 0", "write 2", "tear 0", "judge 0", "seed 1",
        "keep 1", "goBack 1"};
    private static final String[] RULED_OUT = {
        "\\bthrow\\b", "\\btry\\b", "\\bcatch\\b", "\\bsynchronized\\b", "\\bassert\\b", "->", "::", "\\bimport\\b",
        "\\bpackage\\b", "Exact\\b", "Math\\.random", "nanoTime", "currentTimeMillis", "\\bwhile \\(true\\)"};

    public static void main(String[] args) throws Exception {
        classIsPublicAndFinal();
        methodsAreThoseOfTheDocument();
        constantsAreThoseOfTheDocument();
        sourceHasNothingRuledOut();
        Check.end();
    }

    private static void classIsPublicAndFinal() {
        int modifiers = ThreeBelow.class.getModifiers();
        Check.due("public final", Modifier.isPublic(modifiers) && Modifier.isFinal(modifiers) ? 1 : 0, 1);
        Constructor<?>[] all = ThreeBelow.class.getDeclaredConstructors();
        Check.due("constructors", all.length, 1);
        Check.due("public ThreeBelow()", all.length == 1 && Modifier.isPublic(all[0].getModifiers())
                && all[0].getParameterCount() == 0 ? 1 : 0, 1);
    }

    private static void methodsAreThoseOfTheDocument() {
        TreeSet<String> want = new TreeSet<>(Arrays.asList(FACE));
        TreeSet<String> got = new TreeSet<>();
        TreeSet<String> names = new TreeSet<>();
        for (Method m : ThreeBelow.class.getDeclaredMethods()) {
            if (!Modifier.isPrivate(m.getModifiers())) {
                got.add(m.getName() + " " + m.getParameterCount());
                names.add(m.getName());
                Check.due(m.getName() + " is public", Modifier.isPublic(m.getModifiers()) ? 1 : 0, 1);
                Check.due(m.getName() + " answers int", m.getReturnType() == int.class ? 1 : 0, 1);
            }
        }
        Check.due("methods " + got + " for " + want, got.equals(want) ? 1 : 0, 1);
        for (Method m : ThreeBelow.class.getDeclaredMethods()) {
            boolean clash = Modifier.isPrivate(m.getModifiers()) && names.contains(m.getName());
            Check.due("private " + m.getName() + " has a name of its own", clash ? 0 : 1, 1);
        }
    }

    private static void constantsAreThoseOfTheDocument() throws Exception {
        Check.due("NONE", ThreeBelow.NONE, -1);
        Check.due("UNKNOWN", ThreeBelow.UNKNOWN, -1000000001);
        Check.due("OUTSIDE", ThreeBelow.OUTSIDE, -1000000002);
        Check.due("NOT", ThreeBelow.NOT, -1000000003);
        Check.due("FULL", ThreeBelow.FULL, -1000000004);
        int open = 0;
        for (Field f : ThreeBelow.class.getDeclaredFields()) {
            if (!Modifier.isPrivate(f.getModifiers())) {
                open++;
            }
        }
        Check.due("fields that are not private", open, 5);
    }

    private static void sourceHasNothingRuledOut() throws Exception {
        String source = Files.readString(Path.of("src/main/java/ThreeBelow.java"));
        for (String word : RULED_OUT) {
            Matcher m = Pattern.compile(word).matcher(source);
            Check.due("source has " + word, m.find() ? 1 : 0, 0);
        }
    }
}
