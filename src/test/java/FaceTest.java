import java.lang.reflect.Constructor;
import java.lang.reflect.Field;
import java.lang.reflect.Method;
import java.lang.reflect.Modifier;
import java.util.Arrays;
import java.util.Set;
import java.util.TreeSet;

/** The public face of the document, and nothing beside it that can be seen from outside. */
public final class FaceTest {
    private static final String[] METHODS = {
        "int weaver(int, int)", "int feed(int, long)", "int step(int, int, int, int)",
        "int band(int, int, int, int, int)", "int width(int, int)", "int clear()", "int run(int, int, int)",
        "int reset()", "int told(int, int)", "long woven(int, int)", "int bandTold(int, int)",
        "long history(int, int)", "long digest(int)", "int widened(int)", "int failure(int, int)",
        "int balance(int)", "int count(int)"};

    public static void main(String[] args) {
        Class<?> face = WeaveHall.class;
        Due.due("public and final", face.getModifiers() & (Modifier.PUBLIC | Modifier.FINAL),
            Modifier.PUBLIC | Modifier.FINAL);
        Due.due("BAD", WeaveHall.BAD, -1);
        Due.due("NOT", WeaveHall.NOT, -2);
        Due.due("FULL", WeaveHall.FULL, -3);
        Due.due("NONE", WeaveHall.NONE, -5);

        Set<String> seen = new TreeSet<>();
        Set<String> names = new TreeSet<>();
        for (Method m : face.getDeclaredMethods()) {
            if (!Modifier.isPrivate(m.getModifiers())) {
                String text = Arrays.toString(m.getParameterTypes());
                seen.add(m.getReturnType() + " " + m.getName() + "(" + text.substring(1, text.length() - 1) + ")");
                names.add(m.getName());
            }
        }
        Set<String> want = new TreeSet<>(Arrays.asList(METHODS));
        if (!seen.equals(want)) {
            System.out.println("methods: " + seen);
        }
        Due.due("the methods", seen.equals(want) ? 1 : 0, 1);
        Due.due("names are not used again", privateOnesNamed(face, names), 0);

        int constants = 0;
        for (Field f : face.getDeclaredFields()) {
            constants += Modifier.isPrivate(f.getModifiers()) ? 0 : 1;
        }
        Due.due("the constants", constants, 4);
        Constructor<?>[] made = face.getDeclaredConstructors();
        Due.due("one constructor", made.length, 1);
        Due.due("public", made[0].getModifiers(), Modifier.PUBLIC);
        for (Class<?> inside : face.getDeclaredClasses()) {
            Due.due(inside + " is static", Modifier.isStatic(inside.getModifiers()) ? 1 : 0, 1);
            Due.due(inside + " is not public", inside.getModifiers() & (Modifier.PUBLIC | Modifier.PROTECTED), 0);
            Due.due(inside + " bears no name of the face", privateOnesNamed(inside, names), 0);
            Due.due(inside + " has few fields", inside.getDeclaredFields().length <= 20 ? 1 : 0, 1);
        }
        Due.end();
    }

    private static int privateOnesNamed(Class<?> one, Set<String> names) {
        int found = 0;
        for (Method m : one.getDeclaredMethods()) {
            boolean ofFace = one == WeaveHall.class && !Modifier.isPrivate(m.getModifiers());
            if (!ofFace && names.contains(m.getName())) {
                System.out.println("named again: " + m);
                found++;
            }
        }
        return found;
    }
}
