import java.lang.reflect.Constructor;
import java.lang.reflect.Field;
import java.lang.reflect.Method;
import java.lang.reflect.Modifier;
import java.util.ArrayList;
import java.util.Arrays;
import java.util.HashSet;
import java.util.List;
import java.util.Set;

/** The public face of the document, and what rules 1, 5 and 11 of LANGUAGE.md say of the class's shape. */
public final class FaceTest {
    private static final String NO_SUCH = "NoSuchElementException";
    private static final String ARGUMENT = "IllegalArgumentException";
    private static final String STATE = "IllegalStateException";
    private static final String NO_ROOM = "UnsupportedOperationException";

    private static final Set<String> FACE = Set.of(
            face("int piece()", NO_ROOM),
            face("void link(int,int)", NO_SUCH, ARGUMENT),
            face("int robot(int)", NO_SUCH, NO_ROOM),
            face("void rule(int,int,boolean,int)", ARGUMENT),
            face("void move(int,int)", NO_SUCH, STATE),
            face("void load(int,int)", NO_SUCH, ARGUMENT, STATE),
            face("int fault(int,int)", NO_SUCH, ARGUMENT, STATE, NO_ROOM),
            face("int step(int,int)", NO_SUCH, ARGUMENT, STATE),
            face("boolean test(int,boolean)", NO_SUCH, STATE),
            face("int resume(int)", NO_SUCH, STATE),
            face("int zone(int,int)", NO_SUCH, ARGUMENT, STATE),
            face("int found(int,int)", NO_SUCH, STATE),
            face("void tow(int,int)", NO_SUCH, STATE),
            face("void plant(int,int,int)", NO_SUCH, ARGUMENT, NO_ROOM),
            face("int pass(int)", ARGUMENT),
            face("int acknowledge(int,int)", NO_SUCH, ARGUMENT, STATE),
            face("int alarm(int,int)", NO_SUCH, ARGUMENT),
            face("int known(int,int)", NO_SUCH, ARGUMENT),
            face("int told(int,int)", NO_SUCH, ARGUMENT),
            face("int first()"),
            face("int count(int)"));

    public static void main(String[] args) {
        int modifiers = RobotFaults.class.getModifiers();
        Check.due("the class is public and final", Modifier.isPublic(modifiers) && Modifier.isFinal(modifiers), true);
        methodsAreTheFace();
        nothingElseIsSeen();
        shapeOfEachClass();
        Check.end();
    }

    private static String face(String head, String... exceptions) {
        return head + " " + Arrays.asList(exceptions);
    }

    private static String faceOf(Method method) {
        List<String> types = new ArrayList<>();
        for (Class<?> type : method.getParameterTypes()) {
            types.add(type.getName());
        }
        List<String> exceptions = new ArrayList<>();
        for (Class<?> type : method.getExceptionTypes()) {
            exceptions.add(type.getSimpleName());
        }
        String head = method.getReturnType().getName() + " " + method.getName() + "(" + String.join(",", types) + ")";
        return head + " " + exceptions;
    }

    private static void methodsAreTheFace() {
        Set<String> seen = new HashSet<>();
        Set<String> publicNames = new HashSet<>();
        for (Method method : RobotFaults.class.getDeclaredMethods()) {
            if (!Modifier.isPrivate(method.getModifiers())) {
                seen.add(faceOf(method));
                publicNames.add(method.getName());
            }
        }
        for (String want : FACE) {
            Check.due("there is " + want, seen.contains(want), true);
        }
        for (String got : seen) {
            Check.due("the document has " + got, FACE.contains(got), true);
        }
        for (Method method : RobotFaults.class.getDeclaredMethods()) {
            boolean hidden = Modifier.isPrivate(method.getModifiers());
            Check.due("private " + method.getName() + " bears a public name",
                    hidden && publicNames.contains(method.getName()), false);
        }
    }

    private static void nothingElseIsSeen() {
        for (Field field : RobotFaults.class.getDeclaredFields()) {
            Check.due("field " + field.getName() + " is private", Modifier.isPrivate(field.getModifiers()), true);
        }
        Constructor<?>[] constructors = RobotFaults.class.getDeclaredConstructors();
        Check.due("constructors", constructors.length, 1);
        Check.due("its parameters", constructors[0].getParameterCount(), 0);
        Check.due("it is public", Modifier.isPublic(constructors[0].getModifiers()), true);
    }

    private static void shapeOfEachClass() {
        List<Class<?>> classes = new ArrayList<>(Arrays.asList(RobotFaults.class.getDeclaredClasses()));
        Check.due("no more than twelve classes", classes.size() + 1 <= 12, true);
        for (Class<?> inner : classes) {
            Check.due(inner.getName() + " is static", Modifier.isStatic(inner.getModifiers()), true);
            Check.due(inner.getName() + " is public", Modifier.isPublic(inner.getModifiers()), false);
        }
        classes.add(RobotFaults.class);
        for (Class<?> each : classes) {
            fieldsOf(each);
            for (Method method : each.getDeclaredMethods()) {
                Check.due(method.getName() + " takes at most seven", method.getParameterCount() <= 7, true);
            }
        }
    }

    private static void fieldsOf(Class<?> each) {
        int fields = 0;
        for (Field field : each.getDeclaredFields()) {
            if (Modifier.isStatic(field.getModifiers())) {
                Check.due("static " + field.getName() + " is final", Modifier.isFinal(field.getModifiers()), true);
            } else {
                fields++;
            }
        }
        Check.due(each.getName() + " has at most twenty fields", fields <= 20, true);
    }
}
