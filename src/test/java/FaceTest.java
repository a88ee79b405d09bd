import java.lang.reflect.Constructor;
import java.lang.reflect.Field;
import java.lang.reflect.Method;
import java.lang.reflect.Modifier;
import java.util.Arrays;
import java.util.Set;
import java.util.TreeSet;

/** The class shows the face of the document, and nothing else. */
final class FaceTest {
    private static final String INDEX = "IndexOutOfBoundsException";
    private static final String ARGUMENT = "IllegalArgumentException";
    private static final String STATE = "IllegalStateException";

    public static void main(String[] args) {
        Checks checks = new Checks();
        checks.promise("the face");
        Set<String> want = new TreeSet<>(Arrays.asList(
            "int order(int,int,int) " + ARGUMENT + " " + STATE,
            "int unpick(int) " + INDEX + " " + STATE,
            "int sell(int) " + INDEX + " " + STATE,
            "int told(int,int) " + INDEX,
            "int hire(int) " + ARGUMENT + " " + STATE,
            "int seat(int,int) " + INDEX + " " + STATE,
            "int sewer(int,int) " + INDEX,
            "int string(int,int) " + INDEX + " " + ARGUMENT + " " + STATE,
            "int frame(int,int) " + INDEX,
            "int buy(int,int) " + INDEX + " " + ARGUMENT + " " + STATE,
            "int count(int) " + INDEX,
            "int pass(int) " + ARGUMENT,
            "int foresee(int,int) " + ARGUMENT + " " + INDEX,
            "int until(int) " + INDEX,
            "int next()",
            "int advise(int) " + INDEX,
            "int worth()",
            "double mean()",
            "long digest()"));
        Set<String> got = new TreeSet<>();
        for (Method method : SewingFrames.class.getDeclaredMethods()) {
            if (!Modifier.isPrivate(method.getModifiers()) && !method.isSynthetic()) {
                got.add(describe(method));
            }
        }
        if (!got.equals(want)) {
            checks.tell("the methods are " + got + ", due are " + want);
        }
        for (Field field : SewingFrames.class.getDeclaredFields()) {
            if (!Modifier.isPrivate(field.getModifiers())) {
                checks.tell("the field " + field.getName() + " is not private");
            }
            if (Modifier.isStatic(field.getModifiers()) && !Modifier.isFinal(field.getModifiers())) {
                checks.tell("the static field " + field.getName() + " is not final");
            }
        }
        Constructor<?>[] constructors = SewingFrames.class.getDeclaredConstructors();
        checks.due("constructors", constructors.length, 1);
        checks.due("its parameters", constructors[0].getParameterCount(), 0);
        checks.due("it is public", Modifier.isPublic(constructors[0].getModifiers()) ? 1 : 0, 1);
        checks.due("the class is public and final", SewingFrames.class.getModifiers(),
            Modifier.PUBLIC | Modifier.FINAL);
        checks.end();
    }

    private static String describe(Method method) {
        StringBuilder text = new StringBuilder(method.getReturnType().getSimpleName());
        text.append(' ').append(method.getName()).append('(');
        for (int i = 0; i < method.getParameterCount(); i++) {
            text.append(i == 0 ? "" : ",").append(method.getParameterTypes()[i].getSimpleName());
        }
        text.append(')');
        for (Class<?> thrown : method.getExceptionTypes()) {
            text.append(' ').append(thrown.getSimpleName());
        }
        return text.toString();
    }
}
