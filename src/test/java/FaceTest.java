import java.lang.reflect.Constructor;
import java.lang.reflect.Field;
import java.lang.reflect.Method;
import java.lang.reflect.Modifier;
import java.util.Arrays;
import java.util.HashSet;
import java.util.List;
import java.util.Set;
import java.util.TreeSet;

/** The public face is the document's, and nothing else can be seen from outside. */
public final class FaceTest {
    private static final Set<String> DUE = new TreeSet<>(List.of(
            "int wall(int, int)",
            "int opening(int, int, int)",
            "int layer(int, int, int)",
            "int waste(int, int)",
            "int told(int, int)",
            "long need(int)",
            "int pack(int, int, int)",
            "int bought(int, int)",
            "long cents(int)",
            "long cents()",
            "void bars(int, int)",
            "int piece(int)",
            "int change(int, int)",
            "int plan()",
            "int bar(int)",
            "int rest(int)"));

    public static void main(String[] args) {
        int ofClass = LayerQuantities.class.getModifiers();
        Check.holds("public and final", Modifier.isPublic(ofClass) && Modifier.isFinal(ofClass));
        Check.same("NONE", LayerQuantities.NONE, -1);
        methods();
        fields();
        Constructor<?>[] made = LayerQuantities.class.getDeclaredConstructors();
        Check.same("constructors", made.length, 1);
        Check.holds("the constructor is public", Modifier.isPublic(made[0].getModifiers()));
        Check.same("its parameters", made[0].getParameterCount(), 0);
        Check.end();
    }

    private static void methods() {
        Set<String> faces = new TreeSet<>();
        Set<String> publicNames = new HashSet<>();
        Set<String> privateNames = new HashSet<>();
        for (Method m : LayerQuantities.class.getDeclaredMethods()) {
            if (Modifier.isPrivate(m.getModifiers())) {
                privateNames.add(m.getName());
                continue;
            }
            publicNames.add(m.getName());
            Check.holds(m + " is public", Modifier.isPublic(m.getModifiers()));
            Check.holds(m + " is not static", !Modifier.isStatic(m.getModifiers()));
            String types = Arrays.toString(m.getParameterTypes());
            faces.add(m.getReturnType() + " " + m.getName()
                    + "(" + types.substring(1, types.length() - 1) + ")");
        }
        Check.holds("the face is " + faces, faces.equals(DUE));
        privateNames.retainAll(publicNames);
        Check.holds("private methods with a public one's name: " + privateNames,
                privateNames.isEmpty());
    }

    private static void fields() {
        for (Field f : LayerQuantities.class.getDeclaredFields()) {
            int is = f.getModifiers();
            Check.holds(f + " is private", Modifier.isPrivate(is) || f.getName().equals("NONE"));
            Check.holds(f + " is final if static", Modifier.isFinal(is) || !Modifier.isStatic(is));
        }
    }
}
