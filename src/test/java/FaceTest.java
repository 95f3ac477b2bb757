import java.lang.reflect.Constructor;
import java.lang.reflect.Field;
import java.lang.reflect.Method;
import java.lang.reflect.Modifier;
import java.util.Arrays;

/** The document's public face: every member with its types and its throws clause, and no other that is not private. */
public final class FaceTest {
    private static final String INDEX = "IndexOutOfBoundsException";
    private static final String ARGUMENT = "IllegalArgumentException";
    private static final String STATE = "IllegalStateException";
    private static final String[] FACE = {
        "int buy(int,int) " + INDEX + " " + ARGUMENT + " " + STATE,
        "int sell(int) " + INDEX,
        "int mate(int,int) " + INDEX + " " + STATE,
        "int shut(int) " + INDEX + " " + STATE,
        "int open(int) " + INDEX,
        "int set(int,int) " + INDEX + " " + ARGUMENT,
        "int home(int,int) " + INDEX + " " + ARGUMENT + " " + STATE,
        "int dawn()",
        "int append(int) " + ARGUMENT + " " + STATE,
        "int clearBuffer()",
        "int firstError()",
        "int pass() " + ARGUMENT,
        "int stopped(int) " + ARGUMENT,
        "int undo() " + STATE,
        "int keep()",
        "int restore() " + STATE,
        "int dove(int,int) " + INDEX + " " + ARGUMENT,
        "int hole(int,int) " + INDEX + " " + ARGUMENT,
        "int count(int) " + ARGUMENT,
        "int step(int,int) " + ARGUMENT,
        "int whyNot(int,int) " + INDEX + " " + ARGUMENT,
        "int ifHome(int,int,int) " + INDEX + " " + ARGUMENT,
        "int freeHole()",
        "int lateIsAsGood()",
        "double homeShare()",
        "long digest()",
    };

    public static void main(String[] args) {
        Check.due("the class is public", LateDoves.class.getModifiers() & Modifier.PUBLIC, Modifier.PUBLIC);
        Check.due("the class is final", LateDoves.class.getModifiers() & Modifier.FINAL, Modifier.FINAL);
        methods();
        fields();
        Constructor<?>[] all = LateDoves.class.getDeclaredConstructors();
        Check.due("constructors", all.length, 1);
        Check.dueText("the constructor", all[0].toString(), "public LateDoves()");
        Check.end();
    }

    private static void methods() {
        String[] found = new String[FACE.length];
        int size = 0;
        for (Method method : LateDoves.class.getDeclaredMethods()) {
            if (!Modifier.isPrivate(method.getModifiers())) {
                Check.due(method + " is public", method.getModifiers(), Modifier.PUBLIC);
                if (size < found.length) {
                    found[size] = told(method);
                }
                size++;
            }
        }
        Check.due("methods that are not private", size, FACE.length);
        String[] want = FACE.clone();
        Arrays.sort(want);
        Arrays.sort(found, 0, Math.min(size, found.length));
        for (int i = 0; i < want.length; i++) {
            Check.dueText("method", String.valueOf(found[i]), want[i]);
        }
    }

    private static String told(Method method) {
        StringBuilder text = new StringBuilder();
        text.append(method.getReturnType().getSimpleName()).append(' ').append(method.getName()).append('(');
        for (Class<?> type : method.getParameterTypes()) {
            text.append(text.charAt(text.length() - 1) == '(' ? "" : ",").append(type.getSimpleName());
        }
        text.append(')');
        for (Class<?> type : method.getExceptionTypes()) {
            text.append(' ').append(type.getSimpleName());
        }
        return text.toString();
    }

    private static void fields() {
        StringBuilder open = new StringBuilder();
        for (Field field : LateDoves.class.getDeclaredFields()) {
            if (!Modifier.isPrivate(field.getModifiers())) {
                open.append(Modifier.toString(field.getModifiers())).append(' ').append(field.getType()).append(' ');
                open.append(field.getName()).append(';');
            }
        }
        Check.dueText("fields", open.toString(), "public static final int NONE;public static final int ROOF;");
    }
}
