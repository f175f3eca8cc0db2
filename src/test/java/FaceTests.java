import java.lang.reflect.Constructor;
import java.lang.reflect.Field;
import java.lang.reflect.Method;
import java.lang.reflect.Modifier;
import java.util.TreeSet;

/** The face is the document's, and nothing else of the class can be seen or is shared between objects. */
public final class FaceTests {
    private static final String FACE = "int append(int);int clash();int clear();int count(int);int cut(int,int);"
            + "int decide(boolean);int fault(int);int heard(int);int ifStroke(int,int,int,int);int lean(boolean);"
            + "int mirror();int patterns();int put(int,int);int quickest();int read();int rest(int);int restore();"
            + "int save();int set(int);int sign(int);int step(int,int);int stickings(boolean,int);"
            + "int stroke(int,int,boolean,int);int turn(int);int undo();int why();double right(boolean);";

    public static void main(String[] args) {
        Checks checks = new Checks();
        checks.test("face: the methods", FaceTests::methods);
        checks.test("face: the constants", FaceTests::constants);
        checks.test("face: final, one constructor", FaceTests::oneConstructor);
        checks.test("face: static fields are final", FaceTests::noSharedState);
        checks.test("face: no inner method bears the name of a call", FaceTests::innerNames);
        checks.end();
    }

    private static void methods(Checks checks) {
        TreeSet<String> got = new TreeSet<>();
        for (Method method : LeanSticks.class.getDeclaredMethods()) {
            if (!Modifier.isPrivate(method.getModifiers())) {
                got.add(signature(method));
            }
        }
        checks.due("the methods", got.toString(), new TreeSet<>(java.util.List.of(FACE.split(";"))).toString());
    }

    private static String signature(Method method) {
        StringBuilder text = new StringBuilder(method.getReturnType() + " " + method.getName() + "(");
        for (Class<?> type : method.getParameterTypes()) {
            text.append(text.charAt(text.length() - 1) == '(' ? "" : ",").append(type);
        }
        return text + ")";
    }

    private static void constants(Checks checks) {
        TreeSet<String> got = new TreeSet<>();
        for (Field field : LeanSticks.class.getDeclaredFields()) {
            if (!Modifier.isPrivate(field.getModifiers())) {
                got.add(Modifier.toString(field.getModifiers()) + " " + field.getType() + " " + field.getName());
            }
        }
        checks.due("the constants", got.toString(),
                "[public static final int INVALID_ARGUMENT, public static final int LIMIT_REACHED, "
                        + "public static final int NOT_FOUND, public static final int NOT_POSSIBLE]");
        checks.due("INVALID_ARGUMENT", LeanSticks.INVALID_ARGUMENT, -1);
        checks.due("NOT_POSSIBLE", LeanSticks.NOT_POSSIBLE, -2);
        checks.due("LIMIT_REACHED", LeanSticks.LIMIT_REACHED, -3);
        checks.due("NOT_FOUND", LeanSticks.NOT_FOUND, -4);
    }

    private static void oneConstructor(Checks checks) {
        Constructor<?>[] constructors = LeanSticks.class.getDeclaredConstructors();
        checks.due("constructors", constructors.length, 1);
        checks.due("parameters", constructors[0].getParameterCount(), 0);
        checks.due("public", Modifier.toString(constructors[0].getModifiers()), "public");
        checks.due("the class", Modifier.toString(LeanSticks.class.getModifiers()), "public final");
    }

    private static void noSharedState(Checks checks) {
        for (Field field : LeanSticks.class.getDeclaredFields()) {
            checkStatic(checks, field);
        }
        for (Class<?> inner : LeanSticks.class.getDeclaredClasses()) {
            for (Field field : inner.getDeclaredFields()) {
                checkStatic(checks, field);
            }
        }
    }

    private static void checkStatic(Checks checks, Field field) {
        int modifiers = field.getModifiers();
        boolean isShared = Modifier.isStatic(modifiers) && !Modifier.isFinal(modifiers);
        checks.due(field + " is shared", isShared ? 1 : 0, 0);
    }

    private static void innerNames(Checks checks) {
        TreeSet<String> calls = new TreeSet<>();
        for (Method method : LeanSticks.class.getDeclaredMethods()) {
            boolean isNew = !Modifier.isPublic(method.getModifiers()) || calls.add(method.getName());
            checks.due(method + " has a name of its own", isNew ? 1 : 0, 1);
        }
        for (Class<?> inner : LeanSticks.class.getDeclaredClasses()) {
            for (Method method : inner.getDeclaredMethods()) {
                checks.due(method + " bears a call's name", calls.contains(method.getName()) ? 1 : 0, 0);
            }
        }
    }
}
