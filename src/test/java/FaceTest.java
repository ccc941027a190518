import java.lang.reflect.Constructor;
import java.lang.reflect.Field;
import java.lang.reflect.Method;
import java.lang.reflect.Modifier;
import java.nio.file.Files;
import java.nio.file.Path;
import java.util.Arrays;
import java.util.Set;
import java.util.TreeSet;

/** The public face of the document, nothing beside it, and the rules of LANGUAGE.md that are quickly seen. */
public final class FaceTest {
    private static final String[] METHODS = {
        "int weaver(int, int)", "int feed(int, long)", "int step(int, int, int, int)",
        "int band(int, int, int, int, int)", "int width(int, int)", "int clear()", "int run(int, int, int)",
        "int reset()", "int told(int, int)", "long woven(int, int)", "int bandTold(int, int)",
        "long history(int, int)", "long digest(int)", "int widened(int)", "int failure(int, int)",
        "int balance(int)", "int count(int)"};

    public static void main(String[] args) throws Exception {
        Class<?> face = WeaveHall.class;
        Due.due("public and final", face.getModifiers() & (Modifier.PUBLIC | Modifier.FINAL),
            Modifier.PUBLIC | Modifier.FINAL);
        Due.due("BAD", WeaveHall.BAD, -1);
        Due.due("NOT", WeaveHall.NOT, -2);
        Due.due("FULL", WeaveHall.FULL, -3);
        Due.due("NONE", WeaveHall.NONE, -5);

        Set<String> seen = new TreeSet<>();
        Set<String> names = new TreeSet<>();
        for (Method m : face.getDeclaredMethods()) {
            if (!Modifier.isPrivate(m.getModifiers())) {
                String text = Arrays.toString(m.getParameterTypes());
                seen.add(m.getReturnType() + " " + m.getName() + "(" + text.substring(1, text.length() - 1) + ")");
                names.add(m.getName());
            }
        }
        Set<String> want = new TreeSet<>(Arrays.asList(METHODS));
        if (!seen.equals(want)) {
            System.out.println("methods: " + seen);
        }
        Due.due("the methods", seen.equals(want) ? 1 : 0, 1);
        Due.due("names are not used again", privateOnesNamed(face, names), 0);

        int constants = 0;
        for (Field f : face.getDeclaredFields()) {
            constants += Modifier.isPrivate(f.getModifiers()) ? 0 : 1;
        }
        Due.due("the constants", constants, 4);
        Constructor<?>[] made = face.getDeclaredConstructors();
        Due.due("one constructor", made.length, 1);
        Due.due("public", made[0].getModifiers(), Modifier.PUBLIC);
        Due.due("few classes", face.getDeclaredClasses().length < 12 ? 1 : 0, 1);
        keepsToTheRules(face);
        for (Class<?> inside : face.getDeclaredClasses()) {
            keepsToTheRules(inside);
            Due.due(inside + " is static", Modifier.isStatic(inside.getModifiers()) ? 1 : 0, 1);
            Due.due(inside + " is not public", inside.getModifiers() & (Modifier.PUBLIC | Modifier.PROTECTED), 0);
            Due.due(inside + " bears no name of the face", privateOnesNamed(inside, names), 0);
            Due.due(inside + " has few fields", inside.getDeclaredFields().length <= 20 ? 1 : 0, 1);
        }
        source(Files.readString(Path.of("src/main/java/WeaveHall.java")));
        Due.end();
    }

    /** Rules 2, 5 and 11: no class deeper inside, no static state, few parameters. */
    private static void keepsToTheRules(Class<?> one) {
        Due.due(one + " has none inside", one == WeaveHall.class ? 0 : one.getDeclaredClasses().length, 0);
        for (Field f : one.getDeclaredFields()) {
            boolean isState = Modifier.isStatic(f.getModifiers()) && !Modifier.isFinal(f.getModifiers());
            Due.due(f + " is no static state", isState ? 1 : 0, 0);
        }
        for (Method m : one.getDeclaredMethods()) {
            Due.due(m + " has few parameters", m.getParameterCount() <= 7 ? 1 : 0, 1);
        }
    }

    /** Words that LANGUAGE.md leaves out, and imports beside those that it lists. */
    private static void source(String text) {
        String code = text.replaceAll("(?s)/\\*.*?\\*/", " ").replaceAll("//.*", " ");
        String words = "throw|throws|try|catch|finally|synchronized|assert|package|protected|native|volatile"
            + "|double|float|System\\.(?!arraycopy)\\w+|\\w+Exact|hashCode|toString";
        for (String part : code.split("\\s*[;{}]\\s*")) {
            boolean bad = part.matches("(?s).*\\b(" + words + ")\\b.*") || part.contains("->") || part.contains("::")
                || part.startsWith("import") && !part.matches("import java\\.util\\.(Arrays|ArrayList|List)");
            if (bad) {
                System.out.println("left out by LANGUAGE.md: " + part);
            }
            Due.due("a word of LANGUAGE.md", bad ? 1 : 0, 0);
        }
        int open = 0;
        for (String line : text.split("\n")) {
            open = line.matches("    (    )?\\}.*") ? 0 : open + 1;
            boolean begins = line.matches("    (    )?(private|public|[a-z]).*\\) \\{");
            open = begins ? 1 : open;
            Due.due("a method's length at " + line, open > 65 && line.startsWith("            ") ? open : 0, 0);
        }
    }

    private static int privateOnesNamed(Class<?> one, Set<String> names) {
        int found = 0;
        for (Method m : one.getDeclaredMethods()) {
            boolean ofFace = one == WeaveHall.class && !Modifier.isPrivate(m.getModifiers());
            if (!ofFace && names.contains(m.getName())) {
                System.out.println("named again: " + m);
                found++;
            }
        }
        return found;
    }
}
