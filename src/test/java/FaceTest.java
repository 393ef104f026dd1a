import java.lang.reflect.Constructor;
import java.lang.reflect.Field;
import java.lang.reflect.Method;
import java.lang.reflect.Modifier;
import java.util.Arrays;
import java.util.List;
import java.util.TreeSet;

/** The public face is the document's and nothing else. */
public final class FaceTest {
    private static final String I = "IndexOutOfBoundsException";
    private static final String A = "IllegalArgumentException";
    private static final String S = "IllegalStateException";

    private static final List<String> FACE = List.of(
            "int bring(int,int,int) " + I + "," + A + "," + S,
            "int lay(int,int,int) " + I + "," + A + "," + S,
            "int hand(int,int) " + I,
            "int beads(int) " + I,
            "int brought(int) " + I,
            "int draft(int,int) " + A,
            "int bead(int,int,int) " + I,
            "int pattern(int) " + I + "," + S,
            "int patterns() ",
            "int symmetries(int) " + I,
            "int origin(int) " + I,
            "int needs(int,int) " + I,
            "int weave(int,int) " + I + "," + S,
            "int apart(int) " + I + "," + S,
            "int give(int,int) " + I,
            "int owner(int) " + I,
            "int credits(int) " + I,
            "boolean wish(int,int,int) " + I + "," + A,
            "boolean unwish(int) " + I,
            "int chain() ",
            "int chainByOrders() ",
            "int chainAt(int) " + I,
            "int fair() ",
            "int sign(int) " + A + "," + S,
            "int stands(int,int) " + I,
            "int story(int) " + I,
            "long hear(int,int) " + I,
            "int ranked(int) " + I);

    private FaceTest() {
    }

    private static String names(Class<?>[] classes) {
        return String.join(",", Arrays.stream(classes).map(Class::getSimpleName).toList());
    }

    private static void checkMethods() {
        TreeSet<String> found = new TreeSet<>();
        TreeSet<String> publicNames = new TreeSet<>();
        TreeSet<String> privateNames = new TreeSet<>();
        for (Method method : BeadParley.class.getDeclaredMethods()) {
            if (Modifier.isPrivate(method.getModifiers())) {
                privateNames.add(method.getName());
                continue;
            }
            Check.due(method.getName() + " is public alone", Modifier.PUBLIC, method.getModifiers());
            publicNames.add(method.getName());
            found.add(method.getReturnType() + " " + method.getName() + "(" + names(method.getParameterTypes()) + ") "
                    + names(method.getExceptionTypes()));
        }
        Check.due("the methods", new TreeSet<>(FACE), found);
        for (Class<?> inside : BeadParley.class.getDeclaredClasses()) {
            for (Method method : inside.getDeclaredMethods()) {
                if (Modifier.isPrivate(method.getModifiers())) {
                    privateNames.add(method.getName());
                }
            }
        }
        privateNames.retainAll(publicNames);
        Check.due("private methods with a public name", new TreeSet<String>(), privateNames);
    }

    /** What a class takes from another one would be of the face, too. */
    private static void checkNothingIsInherited() {
        Check.due("the class above", Object.class, BeadParley.class.getSuperclass());
        Check.due("interfaces", 0, BeadParley.class.getInterfaces().length);
        Check.due("type parameters", 0, BeadParley.class.getTypeParameters().length);
        Check.due("the package", "", BeadParley.class.getPackageName());
        Check.due("public methods", FACE.size(), Arrays.stream(BeadParley.class.getMethods())
                .filter(method -> method.getDeclaringClass() != Object.class).toList().size());
        Check.due("public classes", 0, BeadParley.class.getClasses().length);
    }

    public static void main(String[] args) throws ReflectiveOperationException {
        Check.due("the class", Modifier.PUBLIC | Modifier.FINAL, BeadParley.class.getModifiers());
        checkMethods();
        checkNothingIsInherited();
        Constructor<?>[] constructors = BeadParley.class.getDeclaredConstructors();
        Check.due("constructors", 1, constructors.length);
        Check.due("the constructor", "public BeadParley()", constructors[0].toString());
        for (Field field : BeadParley.class.getDeclaredFields()) {
            if (!Modifier.isPrivate(field.getModifiers())) {
                Check.due("a constant", "public static final int BeadParley.NONE", field.toString());
            }
        }
        Check.due("NONE", -1, BeadParley.class.getField("NONE").getInt(null));
        for (Class<?> inside : BeadParley.class.getDeclaredClasses()) {
            Check.due(inside.getName(), true, Modifier.isStatic(inside.getModifiers()));
            Check.due(inside.getName(), false,
                    Modifier.isPublic(inside.getModifiers()) || Modifier.isProtected(inside.getModifiers()));
        }
        Check.report("FaceTest");
    }
}
