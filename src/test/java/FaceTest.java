import java.lang.reflect.Constructor;
import java.lang.reflect.Field;
import java.lang.reflect.Method;
import java.lang.reflect.Modifier;
import java.util.ArrayList;
import java.util.Arrays;
import java.util.List;

/** The public face, and what LANGUAGE.md says of members. */
public final class FaceTest {
    private static final Trial TRIAL = new Trial();
    private static final String INDEX = " IndexOutOfBoundsException";
    private static final String ARGUMENT = " IllegalArgumentException";
    private static final String STATE = " IllegalStateException";
    /** What each method answers and takes, and what it says it throws. */
    private static final String[] FACE = {
        "int feed(int,int,int,int,int)",
        "int cut(int)",
        "int read()",
        "int fault()",
        "int drop(int)" + INDEX,
        "int told(int,int)" + INDEX + ARGUMENT,
        "int row(int,int,int)" + INDEX + ARGUMENT,
        "int strand(int,int,int,int)" + INDEX + ARGUMENT,
        "int kind(int,int,int)" + INDEX,
        "int token(int,int,int,int)" + INDEX,
        "int walk(int)" + INDEX,
        "int misfit(int)" + INDEX,
        "int time(int,int,int)" + INDEX + ARGUMENT + STATE,
        "int length(int,int,int,int)" + INDEX + ARGUMENT + STATE,
        "int bars(int)" + INDEX + STATE,
        "int extract(int)" + INDEX,
        "int assemble(int,int)" + INDEX,
        "boolean same(int,int)" + INDEX,
        "int write(int)" + INDEX,
        "int out(int)"};

    private static void constants() {
        TRIAL.due("NONE", SpineTables.NONE, -1);
        TRIAL.due("FULL", SpineTables.FULL, -2);
        TRIAL.due("UNKNOWN", SpineTables.UNKNOWN, -3);
        TRIAL.due("OTHER", SpineTables.OTHER, -4);
        TRIAL.due("ROOM", SpineTables.ROOM, -5);
    }

    private static String told(Method method) {
        List<String> types = new ArrayList<>();
        for (Class<?> type : method.getParameterTypes()) {
            types.add(type.getSimpleName());
        }
        StringBuilder told = new StringBuilder(method.getReturnType().getSimpleName());
        told.append(' ').append(method.getName()).append('(').append(String.join(",", types)).append(')');
        for (Class<?> thrown : method.getExceptionTypes()) {
            told.append(' ').append(thrown.getSimpleName());
        }
        return told.toString();
    }

    private static void members() {
        Class<?> face = SpineTables.class;
        TRIAL.due("the class is public and final", face.getModifiers(), Modifier.PUBLIC | Modifier.FINAL);
        List<String> due = new ArrayList<>(Arrays.asList(FACE));
        List<String> names = new ArrayList<>();
        for (Method method : face.getDeclaredMethods()) {
            if (Modifier.isPublic(method.getModifiers())) {
                TRIAL.due("the document has " + told(method), due.remove(told(method)), true);
                names.add(method.getName());
            } else {
                TRIAL.due(method + " is private", Modifier.isPrivate(method.getModifiers()), true);
            }
        }
        TRIAL.due("methods that lack: " + due, due.size(), 0);
        for (Class<?> inside : face.getDeclaredClasses()) {
            TRIAL.due(inside + " is static", Modifier.isStatic(inside.getModifiers()), true);
            for (Method method : inside.getDeclaredMethods()) {
                TRIAL.due(method + " has a name of the face", names.contains(method.getName()), false);
            }
        }
        for (Constructor<?> constructor : face.getDeclaredConstructors()) {
            TRIAL.due("the constructor takes nothing", constructor.getParameterCount(), 0);
        }
    }

    private static void fields() {
        int open = 0;
        for (Field field : SpineTables.class.getDeclaredFields()) {
            if (Modifier.isStatic(field.getModifiers())) {
                TRIAL.due(field + " is final", Modifier.isFinal(field.getModifiers()), true);
            }
            if (!Modifier.isPrivate(field.getModifiers())) {
                open++;
            }
        }
        TRIAL.due("constants that are seen", open, 5);
    }

    public static void main(String[] args) {
        constants();
        members();
        fields();
        TRIAL.end("FaceTest");
    }
}
