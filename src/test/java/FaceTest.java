import java.lang.reflect.Field;
import java.lang.reflect.Member;
import java.lang.reflect.Method;
import java.lang.reflect.Modifier;
import java.util.Arrays;
import java.util.Set;
import java.util.TreeSet;

/** The public face: just what the document writes, and no private method with a public one's name. */
public final class FaceTest {
    private static final String INDEX = "IndexOutOfBoundsException";
    private static final String ARGUMENT = "IllegalArgumentException";
    private static final String STATE = "IllegalStateException";
    private static final String[] METHODS = {
        "set(int, int) " + INDEX + " " + ARGUMENT,
        "invert(int) " + INDEX + " " + STATE,
        "takeRoot(int) " + INDEX,
        "multiply(int, int) " + INDEX,
        "exchange(int, int) " + INDEX,
        "type(char) " + STATE,
        "clearProgram()",
        "programError()",
        "trappedStep() " + STATE,
        "carryOut() " + STATE,
        "undo() " + STATE,
        "takeSnapshot()",
        "restoreSnapshot() " + STATE,
        "nimberOf(int) " + INDEX,
        "sumOfAll()",
        "registerToLessen()",
        "productByHalves(int, int) " + ARGUMENT,
        "productByBits(int, int) " + ARGUMENT,
        "productByTable(int, int) " + ARGUMENT,
        "quotient(int, int) " + ARGUMENT,
        "power(int, int) " + ARGUMENT,
        "rootOf(int) " + ARGUMENT,
        "fieldOf(int) " + ARGUMENT,
        "orderByPowers(int) " + ARGUMENT,
        "orderByDivisors(int) " + ARGUMENT,
        "traceOf(int) " + ARGUMENT,
        "solve(int) " + ARGUMENT,
        "products()",
        "recordedStates()"};

    private final Checks checks = new Checks("FaceTest");
    private final Set<String> publicNames = new TreeSet<>();

    public static void main(String[] args) throws ReflectiveOperationException {
        FaceTest test = new FaceTest();
        test.theClass();
        test.theConstants();
        test.theMethods();
        for (Class<?> inner : NimberField.class.getDeclaredClasses()) {
            test.aClassInside(inner);
        }
        test.checks.end();
    }

    private void theClass() throws ReflectiveOperationException {
        Class<?> face = NimberField.class;
        checks.due("modifiers", Modifier.PUBLIC | Modifier.FINAL, face.getModifiers());
        checks.due("constructors", 1, face.getDeclaredConstructors().length);
        checks.due("constructor", Modifier.PUBLIC, face.getDeclaredConstructor().getModifiers());
        checks.holds("no package", face.getPackageName().isEmpty());
        checks.holds("no class above", face.getSuperclass() == Object.class);
        checks.due("interfaces", 0, face.getInterfaces().length);
    }

    private void theConstants() throws ReflectiveOperationException {
        for (Field constant : NimberField.class.getDeclaredFields()) {
            int due = Modifier.PUBLIC | Modifier.STATIC | Modifier.FINAL;
            if (constant.getName().equals("NONE")) {
                checks.due("modifiers of NONE", due, constant.getModifiers());
                checks.holds("type of NONE", constant.getType() == int.class);
            } else {
                checks.holds(constant.getName() + " is private", Modifier.isPrivate(constant.getModifiers()));
            }
            finalIfStatic(constant);
        }
        checks.due("NONE", -1, NimberField.class.getField("NONE").getInt(null));
    }

    private void theMethods() {
        Set<String> found = new TreeSet<>();
        Set<String> privateNames = new TreeSet<>();
        for (Method method : NimberField.class.getDeclaredMethods()) {
            if (Modifier.isPrivate(method.getModifiers())) {
                privateNames.add(method.getName());
            } else {
                publicNames.add(method.getName());
                found.add(written(method));
                checks.due("modifiers of " + method, Modifier.PUBLIC, method.getModifiers());
                checks.holds(method + " answers an int", method.getReturnType() == int.class);
            }
        }
        Set<String> due = new TreeSet<>(Arrays.asList(METHODS));
        checks.holds("the face is " + due + ", not " + found, due.equals(found));
        privateNames.retainAll(publicNames);
        checks.holds("private methods named as public ones: " + privateNames, privateNames.isEmpty());
    }

    private static String written(Method method) {
        StringBuilder text = new StringBuilder(method.getName()).append('(');
        for (Class<?> parameter : method.getParameterTypes()) {
            text.append(text.charAt(text.length() - 1) == '(' ? "" : ", ").append(parameter.getSimpleName());
        }
        text.append(')');
        for (Class<?> thrown : method.getExceptionTypes()) {
            text.append(' ').append(thrown.getSimpleName());
        }
        return text.toString();
    }

    private void aClassInside(Class<?> inner) {
        int modifiers = inner.getModifiers();
        checks.holds(inner + " is static", Modifier.isStatic(modifiers));
        checks.holds(inner + " is hidden", !Modifier.isPublic(modifiers) && !Modifier.isProtected(modifiers));
        for (Field field : inner.getDeclaredFields()) {
            finalIfStatic(field);
        }
        for (Method method : inner.getDeclaredMethods()) {
            checks.holds(method + " has a name of its own", !publicNames.contains(method.getName()));
        }
    }

    private void finalIfStatic(Member field) {
        int modifiers = field.getModifiers();
        checks.holds(field + " is no static state", !Modifier.isStatic(modifiers) || Modifier.isFinal(modifiers));
    }
}
