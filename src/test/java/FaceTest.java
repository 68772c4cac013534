import java.lang.reflect.Constructor;
import java.lang.reflect.Field;
import java.lang.reflect.Method;
import java.lang.reflect.Modifier;
import java.util.Arrays;
import java.util.Set;
import java.util.TreeSet;

/** The members of the class are those of the document's public face, and no others can be seen. */
public final class FaceTest {
    private static final String[] FACE = {"alone 1", "beams 2", "best 2", "count 1", "cut 1", "direction 1",
        "element 2 IndexOutOfBoundsException NoSuchElementException", "extreme 2", "fault 1", "feed 5",
        "group 2 IndexOutOfBoundsException NoSuchElementException", "ideal 1", "ifCut 2", "ifKnee 2", "ifParts 1",
        "ifPut 3", "ifShifted 2", "level 2", "mirrored 1", "position 1", "put 2", "rank 3", "ranked 3", "shift 0",
        "single 2", "smooth 2", "smoothed 3", "stem 2", "stretch 4", "stretches 2", "text 1", "total 1", "touch 3",
        "ugliness 4", "undo 0", "want 1", "wish 1"};

    private static String told(Method m) {
        StringBuilder text = new StringBuilder(m.getName()).append(' ').append(m.getParameterCount());
        for (Class<?> thrown : m.getExceptionTypes()) {
            text.append(' ').append(thrown.getSimpleName());
        }
        return text.toString();
    }

    public static void main(String[] args) {
        Checks checks = new Checks();
        Class<?> made = BeamSetter.class;
        checks.due("public final", Modifier.PUBLIC | Modifier.FINAL, made.getModifiers());
        Set<String> seen = new TreeSet<>();
        Set<String> names = new TreeSet<>();
        for (Method m : made.getDeclaredMethods()) {
            if (Modifier.isPublic(m.getModifiers())) {
                seen.add(told(m));
                names.add(m.getName());
                checks.due(m.getName() + " is an int of the object", Modifier.PUBLIC, m.getModifiers());
                boolean ints = m.getReturnType() == int.class
                        && Arrays.stream(m.getParameterTypes()).allMatch(t -> t == int.class);
                checks.due(m.getName() + " has ints alone", 1, ints ? 1 : 0);
            }
        }
        checks.due("face is " + seen, 1, seen.equals(new TreeSet<>(Arrays.asList(FACE))) ? 1 : 0);
        for (Method m : made.getDeclaredMethods()) {
            if (!Modifier.isPublic(m.getModifiers())) {
                boolean hidden = Modifier.isPrivate(m.getModifiers()) && !names.contains(m.getName());
                checks.due(m.getName() + " is hidden, with a name of its own", 1, hidden ? 1 : 0);
            }
        }
        Constructor<?>[] constructors = made.getDeclaredConstructors();
        checks.due("constructors", 1, constructors.length);
        checks.due("constructor's parameters", 0, constructors[0].getParameterCount());
        Set<String> constants = new TreeSet<>();
        for (Field f : made.getDeclaredFields()) {
            if (!Modifier.isPrivate(f.getModifiers())) {
                constants.add(f.getName());
                checks.due(f.getName(), Modifier.PUBLIC | Modifier.STATIC | Modifier.FINAL, f.getModifiers());
            }
        }
        checks.due("constants are " + constants, 1, constants.equals(Set.of("NONE", "NOTHING")) ? 1 : 0);
        checks.due("NONE", -1, BeamSetter.NONE);
        checks.due("NOTHING", -1000000, BeamSetter.NOTHING);
        for (Class<?> inside : made.getDeclaredClasses()) {
            boolean hidden = !Modifier.isPublic(inside.getModifiers()) && !Modifier.isProtected(inside.getModifiers());
            checks.due(inside.getName() + " is hidden", 1, hidden ? 1 : 0);
        }
        checks.end();
    }
}
