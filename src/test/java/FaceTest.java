import java.lang.reflect.Constructor;
import java.lang.reflect.Field;
import java.lang.reflect.Method;
import java.lang.reflect.Modifier;
import java.util.Arrays;

/** The face is that of the document, and nothing else of the class is seen from outside (LANGUAGE.md, rules 1, 5 and 11). */
public final class FaceTest {
    private static final String[] FACE = {
        "int mast(int,int,int,int,int,int) IllegalArgumentException,IllegalStateException",
        "boolean wire(int,boolean) IndexOutOfBoundsException",
        "int station(int,int) IllegalArgumentException,IllegalStateException",
        "int squadron(int,int,int,int,int) IndexOutOfBoundsException,IllegalArgumentException,IllegalStateException",
        "int gun(int,int,int) IllegalArgumentException,IllegalStateException",
        "int lend(int,boolean) IndexOutOfBoundsException",
        "int town(int,int,int) IllegalArgumentException,IllegalStateException",
        "int gate(int) IllegalArgumentException",
        "int flight(boolean,int,int,int,int,int,int) IllegalArgumentException,IllegalStateException",
        "int bend(int,int,int) IndexOutOfBoundsException,IllegalArgumentException,IllegalStateException",
        "int plan(int,int,int,int,int) IllegalArgumentException,IllegalStateException",
        "int scramble(int,int) IndexOutOfBoundsException,IllegalStateException",
        "int lead(int,int) IndexOutOfBoundsException,IllegalStateException",
        "int back(int) IndexOutOfBoundsException,IllegalStateException",
        "int reinforce(int,int) IndexOutOfBoundsException,IllegalArgumentException,IllegalStateException",
        "int pass(int) IllegalArgumentException,IllegalStateException",
        "int call()",
        "int ofFlight(int,int) IndexOutOfBoundsException,IllegalArgumentException",
        "boolean sees(int,int) IndexOutOfBoundsException",
        "int ofMast(int,int) IndexOutOfBoundsException,IllegalArgumentException",
        "int ofSquadron(int,int) IndexOutOfBoundsException,IllegalArgumentException",
        "int room(int) IllegalArgumentException",
        "int ofTrack(int,int) IndexOutOfBoundsException,IllegalArgumentException",
        "int where(int,int,boolean) IndexOutOfBoundsException,IllegalArgumentException",
        "int truth(int) IndexOutOfBoundsException",
        "boolean siren(int) IndexOutOfBoundsException",
        "String table(int) IndexOutOfBoundsException",
        "double seen()",
        "int meet(int,int) IndexOutOfBoundsException",
        "int best(int) IndexOutOfBoundsException",
        "int wouldWin(int,int,int) IndexOutOfBoundsException,IllegalArgumentException",
        "int wouldSound(int) IndexOutOfBoundsException",
        "boolean isSound()",
        "long digest()",
    };

    public static void main(String[] args) {
        classItself();
        methods();
        otherMembers();
        classesInside();
        Checks.end();
    }

    private static void classItself() {
        int modifiers = Plotroom.class.getModifiers();
        Checks.is("public", Modifier.isPublic(modifiers), true);
        Checks.is("final", Modifier.isFinal(modifiers), true);
        Checks.is("of no other class", Plotroom.class.getSuperclass() == Object.class, true);
        Constructor<?>[] constructors = Plotroom.class.getDeclaredConstructors();
        int open = 0;
        for (Constructor<?> constructor : constructors) {
            boolean isPublic = Modifier.isPublic(constructor.getModifiers());
            Checks.is("a constructor is public or private", isPublic || Modifier.isPrivate(constructor.getModifiers()), true);
            if (isPublic) {
                open++;
                Checks.is("parameters of the constructor", constructor.getParameterCount(), 0);
                Checks.is("exceptions of the constructor", constructor.getExceptionTypes().length, 0);
            }
        }
        Checks.is("public constructors", open, 1);
    }

    private static void methods() {
        int open = 0;
        for (Method method : Plotroom.class.getDeclaredMethods()) {
            int modifiers = method.getModifiers();
            if (Modifier.isPublic(modifiers)) {
                open++;
                Checks.is("in the document: " + textOf(method), Arrays.asList(FACE).contains(textOf(method)), true);
                Checks.is("not static: " + method.getName(), Modifier.isStatic(modifiers), false);
            } else {
                Checks.is("private: " + method.getName(), Modifier.isPrivate(modifiers), true);
                Checks.is("a name of its own: " + method.getName(), isOfTheFace(method.getName()), false);
            }
            Checks.is("seven parameters at most: " + method.getName(), method.getParameterCount() <= 7, true);
        }
        Checks.is("public methods", open, FACE.length);
    }

    private static String textOf(Method method) {
        StringBuilder text = new StringBuilder();
        text.append(method.getReturnType().getSimpleName()).append(' ').append(method.getName()).append('(');
        text.append(namesOf(method.getParameterTypes())).append(") ").append(namesOf(method.getExceptionTypes()));
        return text.toString().trim();
    }

    private static String namesOf(Class<?>[] types) {
        StringBuilder names = new StringBuilder();
        for (Class<?> type : types) {
            names.append(names.length() == 0 ? "" : ",").append(type.getSimpleName());
        }
        return names.toString();
    }

    private static boolean isOfTheFace(String name) {
        for (String method : FACE) {
            if (method.contains(" " + name + "(")) {
                return true;
            }
        }
        return false;
    }

    private static void otherMembers() {
        for (Field field : Plotroom.class.getDeclaredFields()) {
            Checks.is("private: " + field.getName(), Modifier.isPrivate(field.getModifiers()), true);
            checkStatic(field);
        }
    }

    private static void checkStatic(Field field) {
        int modifiers = field.getModifiers();
        Checks.is("final if static: " + field.getName(), !Modifier.isStatic(modifiers) || Modifier.isFinal(modifiers), true);
    }

    private static void classesInside() {
        for (Class<?> inside : Plotroom.class.getDeclaredClasses()) {
            int modifiers = inside.getModifiers();
            Checks.is("not public: " + inside.getName(), Modifier.isPublic(modifiers) || Modifier.isProtected(modifiers), false);
            Checks.is("static: " + inside.getName(), Modifier.isStatic(modifiers), true);
            for (Field field : inside.getDeclaredFields()) {
                checkStatic(field);
            }
        }
    }

    private FaceTest() {
    }
}
