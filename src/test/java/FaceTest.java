import java.lang.reflect.Field;
import java.lang.reflect.Method;
import java.lang.reflect.Modifier;
import java.util.Arrays;
import java.util.Set;
import java.util.TreeSet;

/** The public face of the document, and rule 1 of LANGUAGE.md: that face and nothing more is to be seen. */
public final class FaceTest {
    private static final Set<String> METHODS = Set.of("show(int, int)", "shown(int)", "fill(int, int)", "tank(int)",
        "rule(int, int, int, int)", "ask(int)", "act(int, int, int, int)", "run(int)", "amount()", "tick(int)",
        "failed(int, int)", "count(int)", "why()");
    private static final Set<String> CONSTANTS = Set.of("NONE", "UNKNOWN", "OUTSIDE", "FULL");

    public static void main(String[] args) {
        Due d = new Due();
        Class<?> face = GardenRules.class;
        isSo(d, "public", Modifier.isPublic(face.getModifiers()));
        isSo(d, "final", Modifier.isFinal(face.getModifiers()));
        d.due("constructors", face.getDeclaredConstructors().length, 1);
        d.due("public constructors without arguments", face.getConstructors()[0].getParameterCount(), 0);
        methodsAreOfTheFace(d, face);
        fieldsAreOfTheFace(d, face);
        for (Class<?> inside : face.getDeclaredClasses()) {
            boolean hidden = !Modifier.isPublic(inside.getModifiers()) && !Modifier.isProtected(inside.getModifiers());
            isSo(d, inside.getName() + " is hidden and static", hidden && Modifier.isStatic(inside.getModifiers()));
        }
        d.due("NONE", GardenRules.NONE, -1);
        d.due("UNKNOWN", GardenRules.UNKNOWN, -2);
        d.due("OUTSIDE", GardenRules.OUTSIDE, -3);
        d.due("FULL", GardenRules.FULL, -4);
        d.end();
    }

    private static void isSo(Due d, String what, boolean so) {
        d.due(what, so ? 1 : 0, 1);
    }

    private static void methodsAreOfTheFace(Due d, Class<?> face) {
        Set<String> seen = new TreeSet<>();
        Set<String> names = new TreeSet<>();
        for (Method m : face.getDeclaredMethods()) {
            if (Modifier.isPrivate(m.getModifiers()) || m.isSynthetic()) {
                continue;
            }
            String arguments = Arrays.toString(m.getParameterTypes()).replace("[", "(").replace("]", ")");
            seen.add(m.getName() + arguments);
            names.add(m.getName());
            isSo(d, m.getName() + " is public", Modifier.isPublic(m.getModifiers()));
            isSo(d, m.getName() + " is not static", !Modifier.isStatic(m.getModifiers()));
            isSo(d, m.getName() + " answers an int", m.getReturnType() == int.class);
        }
        isSo(d, "methods " + seen, seen.equals(METHODS));
        for (Method m : face.getDeclaredMethods()) {
            isSo(d, "private " + m.getName(), !Modifier.isPrivate(m.getModifiers()) || !names.contains(m.getName()));
        }
    }

    private static void fieldsAreOfTheFace(Due d, Class<?> face) {
        Set<String> seen = new TreeSet<>();
        int own = 0;
        for (Field f : face.getDeclaredFields()) {
            int how = f.getModifiers();
            if (!Modifier.isPrivate(how)) {
                seen.add(f.getName());
                isSo(d, f.getName() + " is a constant", Modifier.isPublic(how) && f.getType() == int.class);
            }
            own += Modifier.isStatic(how) ? 0 : 1;
            isSo(d, f.getName() + " is final, if it is static", !Modifier.isStatic(how) || Modifier.isFinal(how));
        }
        isSo(d, "constants " + seen, seen.equals(CONSTANTS));
        isSo(d, "fields: " + own, own <= 20);
    }
}
