import java.lang.reflect.Constructor;
import java.lang.reflect.Field;
import java.lang.reflect.Method;
import java.lang.reflect.Modifier;
import java.util.Set;
import java.util.TreeSet;

/** The public face is the document's, and nothing else of the class can be seen. */
public final class FaceTest {
    private static final String ARGUMENT = "java.lang.IllegalArgumentException";
    private static final String STATE = "java.lang.IllegalStateException";
    private static final String UNSUPPORTED = "java.lang.UnsupportedOperationException";
    private static final Set<String> FACE = Set.of(
        "int literal(int) throws " + ARGUMENT + "," + STATE,
        "int triple(int,int,int) throws " + ARGUMENT + "," + STATE,
        "int remove(int,int,int) throws " + ARGUMENT,
        "void axioms(boolean)",
        "void count(int) throws " + ARGUMENT,
        "int run() throws " + UNSUPPORTED,
        "int closed(int,int) throws " + ARGUMENT,
        "int find(int,int,int)",
        "int trace(int) throws " + ARGUMENT,
        "int proof(int,int) throws " + ARGUMENT,
        "int rule(int) throws " + ARGUMENT,
        "int told(int) throws " + ARGUMENT);

    public static void main(String[] args) {
        Check check = new Check();
        Class<?> face = RdfsRules.class;
        check.due("public and final", Modifier.isPublic(face.getModifiers()) && Modifier.isFinal(face.getModifiers()));
        Set<String> seen = new TreeSet<>();
        for (Method method : face.getDeclaredMethods()) {
            if (!Modifier.isPrivate(method.getModifiers())) {
                seen.add(method.toString().replaceAll("^public ", "").replace("RdfsRules.", ""));
            }
        }
        check.due("methods " + seen, seen.equals(FACE));
        Set<String> constants = new TreeSet<>();
        for (Field field : face.getDeclaredFields()) {
            if (!Modifier.isPrivate(field.getModifiers())) {
                constants.add(Modifier.toString(field.getModifiers()) + " " + field.getName());
            }
        }
        check.due("constants " + constants,
            constants.equals(Set.of("public static final NONE", "public static final AXIOM")));
        Constructor<?>[] constructors = face.getDeclaredConstructors();
        check.due("one constructor", constructors.length == 1
            && constructors[0].toString().equals("public RdfsRules(int)"));
        check.end();
    }
}
