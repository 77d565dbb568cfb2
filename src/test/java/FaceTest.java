import java.lang.reflect.Constructor;
import java.lang.reflect.Executable;
import java.lang.reflect.Field;
import java.lang.reflect.Method;
import java.lang.reflect.Modifier;
import java.util.Arrays;
import java.util.Set;
import java.util.TreeSet;
import java.util.stream.Collectors;

/** The class shows the document's face, all of it and nothing else (LANGUAGE.md, rules 1 and 5). */
public final class FaceTest {
    private static final String IAE = "IllegalArgumentException";
    private static final String BOTH = IAE + ",IllegalStateException";
    private static final String[] FACE = {
        "void setRank(int,int,int,int) " + IAE,
        "void setStop(int,int,int) " + BOTH,
        "int couple(int,int,int) " + BOTH,
        "boolean uncouple(int,int) " + IAE,
        "int setSupply(int) " + IAE,
        "int setSag(int,int) " + IAE,
        "int tune(int,int) " + IAE,
        "boolean draw(int,boolean) " + IAE,
        "int keep(int) " + IAE,
        "int recall(int) " + IAE,
        "boolean hold(int,int,boolean) " + IAE,
        "int letGo() ",
        "int sound(int) " + IAE,
        "int repair(int) " + IAE,
        "int pipes() ",
        "boolean sounds(int,int) " + IAE,
        "int need() ",
        "int sagStep() ",
        "int pitch(int,int) " + BOTH,
        "int lowest() ",
        "int wear(int,int) " + IAE,
        "int more(int,int) " + IAE,
    };

    public static void main(String[] args) {
        Checks checks = new Checks();
        int modifiers = OrganBuilder.class.getModifiers();
        checks.yes("public and final", Modifier.isPublic(modifiers) && Modifier.isFinal(modifiers));
        Constructor<?>[] constructors = OrganBuilder.class.getDeclaredConstructors();
        checks.equal("constructors", constructors.length, 1);
        checks.yes("a public constructor", Modifier.isPublic(constructors[0].getModifiers()));
        checks.equal("its parameters", constructors[0].getParameterCount(), 0);
        checkMethods(checks);
        for (Field field : OrganBuilder.class.getDeclaredFields()) {
            int of = field.getModifiers();
            checks.yes(field + " is private", Modifier.isPrivate(of));
            checks.yes(field + " if static is final", !Modifier.isStatic(of) || Modifier.isFinal(of));
        }
        checks.end("FaceTest");
    }

    private static void checkMethods(Checks checks) {
        Set<String> due = new TreeSet<>(Arrays.asList(FACE));
        Set<String> shown = new TreeSet<>();
        Set<String> shownNames = new TreeSet<>();
        for (Method method : OrganBuilder.class.getDeclaredMethods()) {
            if (!Modifier.isPrivate(method.getModifiers())) {
                checks.yes(method + " is public", Modifier.isPublic(method.getModifiers()));
                checks.no(method + " is static", Modifier.isStatic(method.getModifiers()));
                shown.add(faceOf(method));
                shownNames.add(method.getName());
            }
        }
        checks.yes("the face is " + shown + ", due is " + due, shown.equals(due));
        for (Method method : OrganBuilder.class.getDeclaredMethods()) {
            if (Modifier.isPrivate(method.getModifiers())) {
                checks.no(method + " bears a public name", shownNames.contains(method.getName()));
            }
        }
    }

    private static String faceOf(Method method) {
        return method.getReturnType() + " " + method.getName()
                + "(" + names(method.getParameterTypes()) + ") " + thrown(method);
    }

    private static String thrown(Executable method) {
        return names(method.getExceptionTypes());
    }

    private static String names(Class<?>[] types) {
        return Arrays.stream(types).map(Class::getSimpleName).collect(Collectors.joining(","));
    }
}
