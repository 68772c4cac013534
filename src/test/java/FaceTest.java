import java.io.IOException;
import java.lang.reflect.Constructor;
import java.lang.reflect.Field;
import java.lang.reflect.Method;
import java.lang.reflect.Modifier;
import java.nio.file.Files;
import java.nio.file.Path;
import java.util.Arrays;
import java.util.Set;
import java.util.TreeSet;
import java.util.regex.Matcher;
import java.util.regex.Pattern;

/** The members of the class are those of the document's public face, and no others can be seen. */
public final class FaceTest {
    private static final String[] FACE = {"alone 1", "beams 2", "best 2", "count 1", "cut 1", "direction 1",
        "element 2 IndexOutOfBoundsException NoSuchElementException", "extreme 2", "fault 1", "feed 5",
        "group 2 IndexOutOfBoundsException NoSuchElementException", "ideal 1", "ifCut 2", "ifKnee 2", "ifParts 1",
        "ifPut 3", "ifShifted 2", "level 2", "mirrored 1", "position 1", "put 2", "rank 3", "ranked 3", "shift 0",
        "single 2", "smooth 2", "smoothed 3", "stem 2", "stretch 4", "stretches 2", "text 1", "total 1", "touch 3",
        "ugliness 4", "undo 0", "want 1", "wish 1"};

    private static final Path DOCUMENT = Path.of("..", "shared", "DOC.md");
    private static final Pattern METHOD = Pattern.compile("    public int (\\w+)\\(((?:int \\w+(?:, )?)*)\\)"
            + "(?: throws (\\w+(?:, \\w+)*))?;");
    private static final Pattern CONSTANT = Pattern.compile("    public static final int (\\w+) = (-?\\d+);");

    /** "The public face" of the document, line by line: each is one of the class. */
    private static void holdAgainstDocument(Checks checks) throws IOException {
        String text = Files.readString(DOCUMENT);
        String face = text.substring(text.indexOf("## The public face"), text.indexOf("## Terms"));
        Set<String> methods = new TreeSet<>();
        for (String line : face.split("\n")) {
            Matcher method = METHOD.matcher(line);
            Matcher constant = CONSTANT.matcher(line);
            if (method.matches()) {
                int many = method.group(2).isEmpty() ? 0 : method.group(2).split(", ").length;
                String thrown = method.group(3) == null ? "" : " " + method.group(3).replace(",", "");
                methods.add(method.group(1) + " " + many + thrown);
            } else if (constant.matches()) {
                checks.due("constant " + line, 1, isConstant(constant.group(1), constant.group(2)) ? 1 : 0);
            } else {
                boolean known = line.isEmpty() || line.equals("}") || line.startsWith("```") || line.startsWith("## ")
                        || line.equals("import java.util.NoSuchElementException;")
                        || line.equals("public final class BeamSetter {") || line.equals("    public BeamSetter();");
                checks.due("the document's face has no other line: " + line, 1, known ? 1 : 0);
            }
        }
        checks.due("the document's face is " + methods, 1, methods.equals(new TreeSet<>(Arrays.asList(FACE))) ? 1 : 0);
    }

    private static boolean isConstant(String name, String value) {
        return name.equals("NONE") && value.equals("" + BeamSetter.NONE)
                || name.equals("NOTHING") && value.equals("" + BeamSetter.NOTHING);
    }

    private static String told(Method m) {
        StringBuilder text = new StringBuilder(m.getName()).append(' ').append(m.getParameterCount());
        for (Class<?> thrown : m.getExceptionTypes()) {
            text.append(' ').append(thrown.getSimpleName());
        }
        return text.toString();
    }

    public static void main(String[] args) throws IOException {
        Checks checks = new Checks();
        if (Files.isReadable(DOCUMENT)) {
            holdAgainstDocument(checks);
        }
        Class<?> made = BeamSetter.class;
        checks.due("public final", Modifier.PUBLIC | Modifier.FINAL, made.getModifiers());
        Set<String> seen = new TreeSet<>();
        Set<String> names = new TreeSet<>();
        for (Method m : made.getDeclaredMethods()) {
            if (Modifier.isPublic(m.getModifiers())) {
                seen.add(told(m));
                names.add(m.getName());
                checks.due(m.getName() + " is an int of the object", Modifier.PUBLIC, m.getModifiers());
                boolean ints = m.getReturnType() == int.class
                        && Arrays.stream(m.getParameterTypes()).allMatch(t -> t == int.class);
                checks.due(m.getName() + " has ints alone", 1, ints ? 1 : 0);
            }
        }
        checks.due("face is " + seen, 1, seen.equals(new TreeSet<>(Arrays.asList(FACE))) ? 1 : 0);
        for (Method m : made.getDeclaredMethods()) {
            if (!Modifier.isPublic(m.getModifiers())) {
                boolean hidden = Modifier.isPrivate(m.getModifiers()) && !names.contains(m.getName());
                checks.due(m.getName() + " is hidden, with a name of its own", 1, hidden ? 1 : 0);
            }
        }
        Constructor<?>[] constructors = made.getDeclaredConstructors();
        checks.due("constructors", 1, constructors.length);
        checks.due("constructor's parameters", 0, constructors[0].getParameterCount());
        Set<String> constants = new TreeSet<>();
        for (Field f : made.getDeclaredFields()) {
            if (!Modifier.isPrivate(f.getModifiers())) {
                constants.add(f.getName());
                checks.due(f.getName(), Modifier.PUBLIC | Modifier.STATIC | Modifier.FINAL, f.getModifiers());
            }
        }
        checks.due("constants are " + constants, 1, constants.equals(Set.of("NONE", "NOTHING")) ? 1 : 0);
        checks.due("NONE", -1, BeamSetter.NONE);
        checks.due("NOTHING", -1000000, BeamSetter.NOTHING);
        for (Class<?> inside : made.getDeclaredClasses()) {
            boolean hidden = !Modifier.isPublic(inside.getModifiers()) && !Modifier.isProtected(inside.getModifiers());
            checks.due(inside.getName() + " is hidden", 1, hidden ? 1 : 0);
        }
        checks.end();
    }
}
