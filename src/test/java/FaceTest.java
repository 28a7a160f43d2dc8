import java.lang.reflect.Constructor;
import java.lang.reflect.Field;
import java.lang.reflect.Method;
import java.lang.reflect.Modifier;
import java.util.Set;
import java.util.TreeSet;

/** The class shows the document's face and nothing more. */
public final class FaceTest {
    private static final Set<String> METHODS = Set.of(
            "int zone(int,int)", "int wind(int,int)", "int warmth(int,int)",
            "int leak(int,int,int,int,int)", "boolean shut(int,boolean)", "int fan(int,int,int,int)",
            "int pressure(int)", "int told(int,int)", "int blows(int)", "int gain(int)",
            "int caseOf(int)", "int worst(int,int)", "int put(int,int)", "int source(int,int)",
            "int steps(int)", "long gone(int)");

    private static int wrong = 0;

    public static void main(String[] args) {
        Class<?> face = PressureNets.class;
        demand(Modifier.isPublic(face.getModifiers()) && Modifier.isFinal(face.getModifiers()),
                "public and final");
        demand(methods(face).equals(new TreeSet<>(METHODS)), "methods " + methods(face));
        for (Field f : face.getDeclaredFields()) {
            demand(f.getName().equals("NONE") || Modifier.isPrivate(f.getModifiers()), "field " + f);
        }
        Constructor<?>[] made = face.getDeclaredConstructors();
        demand(made.length == 1 && made[0].getParameterCount() == 0
                && Modifier.isPublic(made[0].getModifiers()), "one public constructor");
        for (Class<?> inside : face.getDeclaredClasses()) {
            demand(Modifier.isStatic(inside.getModifiers())
                    && !Modifier.isPublic(inside.getModifiers())
                    && !Modifier.isProtected(inside.getModifiers()), "class " + inside);
        }
        System.out.println("FaceTest: " + wrong + " wrong");
        if (wrong != 0) {
            System.exit(1);
        }
    }

    private static Set<String> methods(Class<?> face) {
        Set<String> all = new TreeSet<>();
        for (Method m : face.getDeclaredMethods()) {
            if (!Modifier.isPrivate(m.getModifiers())) {
                String parameters = String.join(",", java.util.Arrays.stream(m.getParameterTypes())
                        .map(Class::getName).toList());
                all.add(m.getReturnType().getName() + " " + m.getName() + "(" + parameters + ")");
            }
        }
        return all;
    }

    private static void demand(boolean is, String what) {
        if (!is) {
            wrong++;
            System.out.println("not as due: " + what);
        }
    }
}
