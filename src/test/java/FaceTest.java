import java.lang.reflect.Constructor;
import java.lang.reflect.Field;
import java.lang.reflect.Method;
import java.lang.reflect.Modifier;
import java.util.Arrays;
import java.util.Set;
import java.util.TreeSet;

/** The public face: its constants, its constructor, its methods, and nothing besides. */
public final class FaceTest {
    private static final String[] METHODS = {
        "int policy()", "int allow(int,int,boolean,int)", "int clear(int)", "int mount(int,int,int)",
        "int create(int,int,int,int,int)", "int renew(int,int)", "int revoke(int)", "int revokeAlone(int)",
        "boolean isAlive(int)", "int parentOf(int)", "int endOf(int)", "int usesLeft(int)", "int below(int)",
        "int tokens()", "int capabilities(int,int)", "int request(int,int)", "int whyDenied(int,int)",
        "int renewCredential(int,int)", "int revokeBelow(int)", "boolean works(int)",
        "int endOfCredential(int)", "int credentials()", "int credentialsOf(int)", "int pass(int)",
        "int time()", "int nextEnd()", "int entries()", "int kindOf(int)", "int subjectOf(int)",
        "int detailOf(int)", "long sumOf(int)"};

    private static final String[] CONSTANTS = {
        "NONE=-1", "READ=1", "WRITE=2", "LIST=4", "DENY=8", "FINE=0", "ENDED=1", "USED_UP=2",
        "UNMOUNTED=3", "FORBIDDEN=4", "CREATED=0", "RENEWED=1", "GRANTED=2", "DENIED=3", "REVOKED=4",
        "EXPIRED=5"};

    public static void main(String[] args) throws IllegalAccessException {
        Checks checks = new Checks();
        Class<SecretBroker> face = SecretBroker.class;
        checks.due("modifiers", face.getModifiers(), Modifier.PUBLIC | Modifier.FINAL);
        checks.due("methods", methods(face, checks), new TreeSet<>(Arrays.asList(METHODS)));
        checks.due("constants", constants(face), new TreeSet<>(Arrays.asList(CONSTANTS)));
        Constructor<?>[] constructors = face.getDeclaredConstructors();
        checks.due("constructors", constructors.length, 1);
        checks.due("constructor", constructors[0].toString(), "public SecretBroker()");
        checks.end("FaceTest");
    }

    private static Set<String> methods(Class<?> face, Checks checks) {
        Set<String> found = new TreeSet<>();
        Set<String> hidden = new TreeSet<>();
        for (Method method : face.getDeclaredMethods()) {
            if (Modifier.isPrivate(method.getModifiers())) {
                hidden.add(method.getName());
            } else {
                checks.due(method + " is public", method.getModifiers(), Modifier.PUBLIC);
                found.add(told(method));
            }
        }
        for (Method method : face.getDeclaredMethods()) {
            boolean shown = Modifier.isPublic(method.getModifiers());
            checks.due(method + " has a private namesake", shown && hidden.contains(method.getName()), false);
        }
        return found;
    }

    private static String told(Method method) {
        StringBuilder text = new StringBuilder();
        text.append(method.getReturnType()).append(' ').append(method.getName()).append('(');
        String comma = "";
        for (Class<?> parameter : method.getParameterTypes()) {
            text.append(comma).append(parameter);
            comma = ",";
        }
        return text.append(')').toString();
    }

    private static Set<String> constants(Class<?> face) throws IllegalAccessException {
        Set<String> found = new TreeSet<>();
        for (Field field : face.getDeclaredFields()) {
            if (!Modifier.isPrivate(field.getModifiers())) {
                found.add(field.getName() + "=" + field.getInt(null));
            }
        }
        return found;
    }
}
