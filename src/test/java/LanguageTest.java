import java.lang.reflect.Constructor;
import java.lang.reflect.Field;
import java.lang.reflect.Method;
import java.lang.reflect.Modifier;
import java.nio.file.Files;
import java.nio.file.Path;
import java.util.Arrays;
import java.util.Set;
import java.util.TreeSet;
import java.util.regex.Pattern;

/** The face of the document, and those rules of LANGUAGE.md that a test can see. */
public final class LanguageTest {
    private static final Set<String> FACE = new TreeSet<>(Arrays.asList(
            "act(int,int,int,int,int)", "clear(int)", "closed(int)", "shelf(int,int)", "run(int,int)",
            "told(int)", "caught(int)", "about(int,int)", "first(int)", "row(int)", "rest()", "goods()"));
    private static final Set<String> CONSTANTS = new TreeSet<>(Arrays.asList("FULL", "NONE", "OUTSIDE", "STATE"));

    public static void main(String[] args) throws Exception {
        Class<?> face = HeldShelves.class;
        int open = Modifier.PUBLIC | Modifier.FINAL;
        Due.isTrue("public and final", (face.getModifiers() & open) == open);
        methods(face);
        constants(face);
        for (Constructor<?> made : face.getDeclaredConstructors()) {
            Due.isTrue("one public constructor", Modifier.isPublic(made.getModifiers()) && made.getParameterCount() == 0);
        }
        for (Class<?> inside : face.getDeclaredClasses()) {
            inside(inside);
        }
        words(Files.readString(Path.of("src/main/java/HeldShelves.java")));
        Due.end();
    }

    private static void methods(Class<?> face) {
        Set<String> seen = new TreeSet<>();
        for (Method method : face.getDeclaredMethods()) {
            if (Modifier.isPrivate(method.getModifiers())) {
                continue;
            }
            String types = Arrays.toString(method.getParameterTypes()).replaceAll("[\\[\\] ]", "");
            seen.add(method.getName() + "(" + types + ")");
            Due.isTrue(method + " is public", Modifier.isPublic(method.getModifiers()));
            Due.isTrue(method + " answers int", method.getReturnType() == int.class);
        }
        Due.isTrue("the methods of the face: " + seen, seen.equals(FACE));
    }

    private static void constants(Class<?> face) throws Exception {
        Set<String> seen = new TreeSet<>();
        for (Field field : face.getDeclaredFields()) {
            int marks = field.getModifiers();
            Due.isTrue(field + " is no changing static", !Modifier.isStatic(marks) || Modifier.isFinal(marks));
            if (!Modifier.isPrivate(marks)) {
                seen.add(field.getName());
            }
        }
        Due.isTrue("the constants of the face: " + seen, seen.equals(CONSTANTS));
        Due.is("OUTSIDE", HeldShelves.OUTSIDE, -1);
        Due.is("FULL", HeldShelves.FULL, -2);
        Due.is("STATE", HeldShelves.STATE, -3);
        Due.is("NONE", HeldShelves.NONE, -4);
    }

    private static void inside(Class<?> inside) {
        int marks = inside.getModifiers();
        Due.isTrue(inside + " is static", Modifier.isStatic(marks));
        Due.isTrue(inside + " is not open", !Modifier.isPublic(marks) && !Modifier.isProtected(marks));
        for (Method method : inside.getDeclaredMethods()) {
            boolean again = FACE.stream().anyMatch(name -> name.startsWith(method.getName() + "("));
            Due.isTrue(method + " bears a name of its own", !again);
        }
    }

    private static void words(String source) {
        String code = source.replaceAll("(?s)/\\*.*?\\*/", "").replaceAll("//[^\n]*", "");
        for (String word : new String[] {"throw", "throws", "try", "catch", "finally", "synchronized",
                "assert", "import", "package", "equals", "hashCode", "toString"}) {
            Due.isTrue("no " + word, !Pattern.compile("\\b" + word + "\\b").matcher(code).find());
        }
        Due.isTrue("no lambda, no method reference", !code.contains("->") && !code.contains("::"));
    }
}
