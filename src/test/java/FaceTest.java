import java.lang.reflect.Constructor;
import java.lang.reflect.Field;
import java.lang.reflect.Method;
import java.lang.reflect.Modifier;
import java.util.ArrayList;
import java.util.Arrays;
import java.util.List;
import java.util.TreeSet;

/** The class bears the face of the document, and nothing else that can be seen from outside. */
public final class FaceTest {
    private static final String ARGUMENT = "IllegalArgumentException";
    private static final String STATE = ARGUMENT + " IllegalStateException";
    private static final String INDEX = "IndexOutOfBoundsException";
    private static final String ALL = INDEX + " " + STATE;

    private static final String[] FACE = {
        "int addCurve(int) " + STATE,
        "int addPoint(int int int) " + ALL,
        "long flowBy(int int) " + ALL,
        "int stageBy(int int) " + ALL,
        "int curveOf(int) " + ARGUMENT,
        "int setShift(int int) " + STATE,
        "int shift(int) " + ARGUMENT,
        "int read(int int int int) " + ARGUMENT,
        "int erase(int int) " + ARGUMENT,
        "int freeze(int int boolean) " + ARGUMENT,
        "int setRules(int int) " + ARGUMENT,
        "int state(int) " + ARGUMENT,
        "long flow(int) " + ARGUMENT,
        "long sum(int int int) " + INDEX + " " + ARGUMENT,
        "double mean(int int) " + ARGUMENT,
        "long reached(int) " + ARGUMENT,
        "int peaks(long int) " + ARGUMENT,
        "int spell(long) " + ARGUMENT,
        "int measure(int int int) " + STATE,
        "long deviation(int) " + INDEX + " IllegalStateException",
        "int wouldShift(int) " + INDEX + " IllegalStateException",
        "int count(int) " + INDEX,
        "long digest() "};

    private static int wrong;

    public static void main(String[] args) {
        int modifiers = GaugeBook.class.getModifiers();
        demand(Modifier.isPublic(modifiers) && Modifier.isFinal(modifiers), "the class is not public and final");
        Constructor<?>[] constructors = GaugeBook.class.getDeclaredConstructors();
        demand(constructors.length == 1 && Modifier.isPublic(constructors[0].getModifiers())
                && constructors[0].getParameterCount() == 0, "the constructor is not the one of the face");
        checkMethods();
        for (Field field : GaugeBook.class.getDeclaredFields()) {
            demand(Modifier.isPrivate(field.getModifiers()), field.getName() + " can be seen from outside");
        }
        System.out.println(wrong == 0 ? "the face is as due" : wrong + " members are not as due");
        if (wrong != 0) {
            System.exit(1);
        }
    }

    private static void checkMethods() {
        TreeSet<String> seen = new TreeSet<>();
        List<String> publicNames = new ArrayList<>();
        List<String> privateNames = new ArrayList<>();
        for (Method method : GaugeBook.class.getDeclaredMethods()) {
            if (Modifier.isPrivate(method.getModifiers())) {
                privateNames.add(method.getName());
            } else {
                seen.add(described(method));
                publicNames.add(method.getName());
                demand(Modifier.isPublic(method.getModifiers()), method.getName() + " is not public");
            }
        }
        TreeSet<String> due = new TreeSet<>(Arrays.asList(FACE));
        demand(seen.equals(due), "the methods are " + seen + ", due are " + due);
        for (String name : privateNames) {
            demand(!publicNames.contains(name), "a private method bears the name " + name);
        }
    }

    private static String described(Method method) {
        return method.getReturnType() + " " + method.getName() + "(" + names(method.getParameterTypes()) + ") "
                + names(method.getExceptionTypes());
    }

    private static String names(Class<?>[] types) {
        List<String> names = new ArrayList<>();
        for (Class<?> type : types) {
            names.add(type.getSimpleName());
        }
        return String.join(" ", names);
    }

    private static void demand(boolean holds, String complaint) {
        if (!holds) {
            wrong++;
            System.out.println(complaint);
        }
    }
}
