import java.lang.reflect.Constructor;
import java.lang.reflect.Field;
import java.lang.reflect.Method;
import java.lang.reflect.Modifier;
import java.util.Arrays;
import java.util.Set;
import java.util.TreeSet;

/** The public face: its constants, its constructor, its methods, and nothing besides. */
public final class FaceTest {
    private static final String NUMBER = "IndexOutOfBoundsException", ARGUMENT = "IllegalArgumentException";
    private static final String STATE = "IllegalStateException";
    private static final String[] METHODS = {
        "int policy() throws " + STATE,
        "int allow(int,int,boolean,int) throws " + NUMBER + "," + ARGUMENT + "," + STATE,
        "int clear(int) throws " + NUMBER,
        "int mount(int,int,int) throws " + ARGUMENT + "," + STATE,
        "int create(int,int,int,int,int) throws " + NUMBER + "," + ARGUMENT + "," + STATE,
        "int renew(int,int) throws " + NUMBER + "," + ARGUMENT + "," + STATE,
        "int revoke(int) throws " + NUMBER + "," + STATE,
        "int revokeAlone(int) throws " + NUMBER + "," + STATE,
        "boolean isAlive(int) throws " + NUMBER,
        "int parentOf(int) throws " + NUMBER,
        "int endOf(int) throws " + NUMBER,
        "int usesLeft(int) throws " + NUMBER,
        "int below(int) throws " + NUMBER,
        "int tokens()",
        "int capabilities(int,int) throws " + NUMBER + "," + ARGUMENT,
        "int request(int,int) throws " + NUMBER + "," + ARGUMENT + "," + STATE,
        "int whyDenied(int,int) throws " + NUMBER + "," + ARGUMENT,
        "int renewCredential(int,int) throws " + NUMBER + "," + ARGUMENT + "," + STATE,
        "int revokeBelow(int) throws " + ARGUMENT,
        "boolean works(int) throws " + NUMBER,
        "int endOfCredential(int) throws " + NUMBER,
        "int credentials()",
        "int credentialsOf(int) throws " + NUMBER,
        "int pass(int) throws " + ARGUMENT,
        "int time()",
        "int nextEnd()",
        "int entries()",
        "int kindOf(int) throws " + NUMBER,
        "int subjectOf(int) throws " + NUMBER,
        "int detailOf(int) throws " + NUMBER,
        "long sumOf(int) throws " + NUMBER};

    private static final String[] CONSTANTS = {
        "NONE=-1", "READ=1", "WRITE=2", "LIST=4", "DENY=8", "FINE=0", "ENDED=1", "USED_UP=2",
        "UNMOUNTED=3", "FORBIDDEN=4", "CREATED=0", "RENEWED=1", "GRANTED=2", "DENIED=3", "REVOKED=4",
        "EXPIRED=5"};

    public static void main(String[] args) throws IllegalAccessException {
        Checks checks = new Checks();
        Class<SecretBroker> face = SecretBroker.class;
        checks.due("modifiers", face.getModifiers(), Modifier.PUBLIC | Modifier.FINAL);
        checks.due("methods", methods(face, checks), new TreeSet<>(Arrays.asList(METHODS)));
        checks.due("constants", constants(face, checks), new TreeSet<>(Arrays.asList(CONSTANTS)));
        Constructor<?>[] constructors = face.getDeclaredConstructors();
        checks.due("constructors", constructors.length, 1);
        checks.due("constructor", constructors[0].toString(), "public SecretBroker()");
        checks.end("FaceTest");
    }

    private static Set<String> methods(Class<?> face, Checks checks) {
        Set<String> found = new TreeSet<>();
        Set<String> hidden = new TreeSet<>();
        for (Method method : face.getDeclaredMethods()) {
            if (Modifier.isPrivate(method.getModifiers())) {
                hidden.add(method.getName());
            } else {
                checks.due(method + " is public", method.getModifiers(), Modifier.PUBLIC);
                found.add(told(method));
            }
        }
        for (Method method : face.getDeclaredMethods()) {
            boolean shown = Modifier.isPublic(method.getModifiers());
            checks.due(method + " has a private namesake", shown && hidden.contains(method.getName()), false);
        }
        return found;
    }

    private static String told(Method method) {
        StringBuilder text = new StringBuilder();
        text.append(method.getReturnType()).append(' ').append(method.getName()).append('(');
        text.append(listed(method.getParameterTypes())).append(')');
        Class<?>[] thrown = method.getExceptionTypes();
        return thrown.length == 0 ? text.toString() : text + " throws " + listed(thrown);
    }

    private static String listed(Class<?>[] classes) {
        StringBuilder text = new StringBuilder();
        for (Class<?> one : classes) {
            text.append(text.length() == 0 ? "" : ",").append(one.getSimpleName());
        }
        return text.toString();
    }

    private static Set<String> constants(Class<?> face, Checks checks) throws IllegalAccessException {
        Set<String> found = new TreeSet<>();
        for (Field field : face.getDeclaredFields()) {
            if (!Modifier.isPrivate(field.getModifiers())) {
                checks.due(field + " is a constant", field.getModifiers(),
                        Modifier.PUBLIC | Modifier.STATIC | Modifier.FINAL);
                checks.due(field + " is an int", field.getType(), int.class);
                found.add(field.getName() + "=" + field.getInt(null));
            }
        }
        return found;
    }
}
