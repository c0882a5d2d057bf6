import java.lang.reflect.Constructor;
import java.lang.reflect.Field;
import java.lang.reflect.Method;
import java.lang.reflect.Modifier;
import java.util.Arrays;
import java.util.HashSet;
import java.util.List;
import java.util.Set;
import java.util.TreeSet;
import java.util.stream.Collectors;

/** The public face is the document's, and nothing else can be seen from outside. */
public final class FaceTest {
    private static final String ARGUMENT = " throws IllegalArgumentException";
    private static final String ARGUMENT_OR_STATE = ARGUMENT + ", IllegalStateException";
    private static final Set<String> DUE = new TreeSet<>(List.of(
            "int wall(int, int)" + ARGUMENT_OR_STATE,
            "int opening(int, int, int)" + ARGUMENT_OR_STATE,
            "int layer(int, int, int)" + ARGUMENT_OR_STATE,
            "int waste(int, int)" + ARGUMENT,
            "int told(int, int)" + ARGUMENT,
            "long need(int)" + ARGUMENT,
            "int pack(int, int, int)" + ARGUMENT_OR_STATE,
            "int bought(int, int)" + ARGUMENT,
            "long cents(int)" + ARGUMENT,
            "long cents()",
            "void bars(int, int)" + ARGUMENT_OR_STATE,
            "int piece(int)" + ARGUMENT_OR_STATE,
            "int change(int, int)" + ARGUMENT,
            "int plan()",
            "int bar(int)" + ARGUMENT,
            "int rest(int)" + ARGUMENT));

    public static void main(String[] args) {
        int ofClass = LayerQuantities.class.getModifiers();
        Check.holds("public and final", Modifier.isPublic(ofClass) && Modifier.isFinal(ofClass));
        Check.same("NONE", LayerQuantities.NONE, -1);
        methods();
        fields();
        constructors();
        classesInside();
        Check.end();
    }

    private static void methods() {
        Set<String> faces = new TreeSet<>();
        Set<String> publicNames = new HashSet<>();
        Set<String> privateNames = new HashSet<>();
        for (Method m : LayerQuantities.class.getDeclaredMethods()) {
            if (Modifier.isPrivate(m.getModifiers())) {
                privateNames.add(m.getName());
                continue;
            }
            publicNames.add(m.getName());
            Check.holds(m + " is public", Modifier.isPublic(m.getModifiers()));
            Check.holds(m + " is not static", !Modifier.isStatic(m.getModifiers()));
            faces.add(face(m));
        }
        Check.holds("the face is " + faces, faces.equals(DUE));
        for (Class<?> inside : LayerQuantities.class.getDeclaredClasses()) {
            for (Method m : inside.getDeclaredMethods()) {
                privateNames.add(m.getName());
            }
        }
        privateNames.retainAll(publicNames);
        Check.holds("private methods with a public one's name: " + privateNames,
                privateNames.isEmpty());
    }

    /** A method as the document writes it, without the names of its parameters. */
    private static String face(Method m) {
        String thrown = names(m.getExceptionTypes());
        return m.getReturnType() + " " + m.getName() + "(" + names(m.getParameterTypes()) + ")"
                + (thrown.isEmpty() ? "" : " throws " + thrown);
    }

    private static String names(Class<?>[] types) {
        return Arrays.stream(types).map(Class::getSimpleName).collect(Collectors.joining(", "));
    }

    private static void fields() {
        for (Field f : LayerQuantities.class.getDeclaredFields()) {
            int is = f.getModifiers();
            Check.holds(f + " is private", Modifier.isPrivate(is) || f.getName().equals("NONE"));
            Check.holds(f + " is final if static", Modifier.isFinal(is) || !Modifier.isStatic(is));
        }
    }

    private static void constructors() {
        Constructor<?>[] made = LayerQuantities.class.getDeclaredConstructors();
        Check.same("constructors", made.length, 1);
        Check.holds("the constructor is public", Modifier.isPublic(made[0].getModifiers()));
        Check.same("its parameters", made[0].getParameterCount(), 0);
        Check.same("its exceptions", made[0].getExceptionTypes().length, 0);
    }

    private static void classesInside() {
        for (Class<?> inside : LayerQuantities.class.getDeclaredClasses()) {
            int is = inside.getModifiers();
            Check.holds(inside + " is static", Modifier.isStatic(is));
            Check.holds(inside + " is not seen outside",
                    !Modifier.isPublic(is) && !Modifier.isProtected(is));
        }
    }
}
