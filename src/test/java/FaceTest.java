import java.lang.reflect.Constructor;
import java.lang.reflect.Field;
import java.lang.reflect.Method;
import java.lang.reflect.Modifier;
import java.util.ArrayList;
import java.util.Arrays;
import java.util.List;

/** The class has the document's face, and shows nothing else. */
public final class FaceTest {
    private static final Due due = new Due();
    private static final String INDEX = " throws IndexOutOfBoundsException";
    private static final String ARGUMENT = " throws IllegalArgumentException";
    private static final String[] FACE = {
        "int addRegion(int)" + INDEX + ", IllegalStateException",
        "int addCheck(int, int, int, int)" + ARGUMENT + ", IllegalStateException",
        "boolean setDown(int, int, boolean)" + INDEX,
        "boolean setCut(int, boolean)" + INDEX,
        "int setQuorum(int, int)" + INDEX + ", IllegalArgumentException",
        "int addWindow(int, int, int)" + INDEX + ", IllegalArgumentException, IllegalStateException",
        "int endWindow(int)" + INDEX,
        "int pass(int)" + ARGUMENT,
        "int minute()",
        "int failing(int)" + INDEX,
        "int nextProbe(int, int)" + INDEX,
        "int repetition(int, int)" + INDEX,
        "int vote(int, int)" + INDEX,
        "int probes(int)" + INDEX,
        "int failures(int)" + INDEX,
        "boolean isBad(int)" + INDEX,
        "int verdict(int)" + INDEX,
        "int trusted(int)" + INDEX,
        "int alarms()",
        "boolean hasAlarm(int)" + INDEX,
        "int alarmCheck(int)" + INDEX,
        "int alarmRaised(int)" + INDEX,
        "int alarmClosed(int)" + INDEX,
        "float availability(int)" + INDEX + ", IllegalStateException",
    };

    public static void main(String[] args) {
        due.is("the class", Modifier.toString(Probeweb.class.getModifiers()), "public final");
        due.is("what it extends", Probeweb.class.getSuperclass().getSimpleName(), "Object");
        due.is("its interfaces", Probeweb.class.getInterfaces().length, 0);
        comparePublicMethods();
        compareConstructors();
        comparePrivateMembers();
        due.end();
    }

    private static void comparePublicMethods() {
        List<String> shown = new ArrayList<>();
        for (Method method : Probeweb.class.getDeclaredMethods()) {
            if (!Modifier.isPrivate(method.getModifiers()) && !method.isSynthetic()) {
                due.is(method.getName(), Modifier.toString(method.getModifiers()), "public");
                shown.add(method.getReturnType().getSimpleName() + " " + method.getName()
                        + "(" + names(method.getParameterTypes()) + ")" + thrown(method));
            }
        }
        String[] face = FACE.clone();
        Arrays.sort(face);
        shown.sort(null);
        due.is("the public methods", String.join("\n", shown), String.join("\n", face));
    }

    private static void compareConstructors() {
        Constructor<?>[] constructors = Probeweb.class.getDeclaredConstructors();
        due.is("constructors", constructors.length, 1);
        due.is("the constructor", constructors[0].toString(), "public Probeweb()");
    }

    private static void comparePrivateMembers() {
        for (Field field : Probeweb.class.getDeclaredFields()) {
            int modifiers = field.getModifiers();
            due.is("field " + field.getName() + " is private", Modifier.isPrivate(modifiers), true);
            boolean isChangingStatic = Modifier.isStatic(modifiers) && !Modifier.isFinal(modifiers);
            due.is("field " + field.getName() + " is static and changes", isChangingStatic, false);
        }
        for (Method method : Probeweb.class.getDeclaredMethods()) {
            if (Modifier.isPrivate(method.getModifiers())) {
                due.is("private " + method.getName() + " bears a public name", isInFace(method.getName()), false);
            }
        }
        for (Class<?> inside : Probeweb.class.getDeclaredClasses()) {
            due.is("class " + inside.getSimpleName() + " is static", Modifier.isStatic(inside.getModifiers()), true);
            due.is("class " + inside.getSimpleName() + " is public", Modifier.isPublic(inside.getModifiers()), false);
        }
    }

    private static boolean isInFace(String name) {
        for (String call : FACE) {
            if (call.contains(" " + name + "(")) {
                return true;
            }
        }
        return false;
    }

    private static String names(Class<?>[] types) {
        List<String> names = new ArrayList<>();
        for (Class<?> type : types) {
            names.add(type.getSimpleName());
        }
        return String.join(", ", names);
    }

    private static String thrown(Method method) {
        String names = names(method.getExceptionTypes());
        return names.isEmpty() ? "" : " throws " + names;
    }
}
