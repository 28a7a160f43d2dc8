import java.lang.reflect.Constructor;
import java.lang.reflect.Field;
import java.lang.reflect.Method;
import java.lang.reflect.Modifier;
import java.util.Arrays;
import java.util.List;
import java.util.Set;
import java.util.TreeSet;
import java.util.stream.Collectors;

/** The class shows the document's face and nothing more. */
public final class FaceTest {
    private static final Set<String> METHODS = Set.of(
            "int zone(int,int)", "int wind(int,int)", "int warmth(int,int)",
            "int leak(int,int,int,int,int)", "boolean shut(int,boolean)", "int fan(int,int,int,int)",
            "int pressure(int)", "int told(int,int)", "int blows(int)", "int gain(int)",
            "int caseOf(int)", "int worst(int,int)", "int put(int,int)", "int source(int,int)",
            "int steps(int)", "long gone(int)");
    private static final Set<String> NAMES = METHODS.stream()
            .map(m -> m.substring(m.indexOf(' ') + 1, m.indexOf('('))).collect(Collectors.toSet());
    private static final Set<String> MAY_BE_FULL = Set.of("zone", "leak", "fan", "caseOf");

    private static int wrong = 0;

    public static void main(String[] args) {
        Class<?> face = PressureNets.class;
        demand(Modifier.isPublic(face.getModifiers()) && Modifier.isFinal(face.getModifiers()),
                "public and final");
        demand(methods(face).equals(new TreeSet<>(METHODS)), "methods " + methods(face));
        for (Field f : face.getDeclaredFields()) {
            demand(f.getName().equals("NONE") || Modifier.isPrivate(f.getModifiers()), "field " + f);
        }
        demand(Arrays.stream(face.getFields()).map(Field::toString).toList()
                .equals(List.of("public static final int PressureNets.NONE")), "the one constant");
        for (Method m : face.getDeclaredMethods()) {
            boolean isPublic = Modifier.isPublic(m.getModifiers());
            demand(isPublic == NAMES.contains(m.getName()), "name of " + m);
            demand(!isPublic || thrownBy(m).equals(dueThrows(m)), "throws of " + m);
        }
        Constructor<?>[] made = face.getDeclaredConstructors();
        demand(made.length == 1 && made[0].getParameterCount() == 0
                && Modifier.isPublic(made[0].getModifiers()), "one public constructor");
        for (Class<?> inside : face.getDeclaredClasses()) {
            demand(Modifier.isStatic(inside.getModifiers())
                    && !Modifier.isPublic(inside.getModifiers())
                    && !Modifier.isProtected(inside.getModifiers()), "class " + inside);
        }
        System.out.println("FaceTest: " + wrong + " wrong");
        if (wrong != 0) {
            System.exit(1);
        }
    }

    private static Set<String> methods(Class<?> face) {
        Set<String> all = new TreeSet<>();
        for (Method m : face.getDeclaredMethods()) {
            if (!Modifier.isPrivate(m.getModifiers())) {
                String parameters = String.join(",", Arrays.stream(m.getParameterTypes())
                        .map(Class::getName).toList());
                all.add(m.getReturnType().getName() + " " + m.getName() + "(" + parameters + ")");
            }
        }
        return all;
    }

    private static List<Class<?>> thrownBy(Method m) {
        return List.of(m.getExceptionTypes());
    }

    private static List<Class<?>> dueThrows(Method m) {
        return MAY_BE_FULL.contains(m.getName())
                ? List.of(IllegalArgumentException.class, IllegalStateException.class)
                : List.of(IllegalArgumentException.class);
    }

    private static void demand(boolean is, String what) {
        if (!is) {
            wrong++;
            System.out.println("not as due: " + what);
        }
    }
}
