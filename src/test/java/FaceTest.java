import java.lang.reflect.Constructor;
import java.lang.reflect.Field;
import java.lang.reflect.Method;
import java.lang.reflect.Modifier;
import java.util.Set;
import java.util.TreeSet;

/** The public face is the document's, and nothing else of the class can be seen. */
public final class FaceTest {
    private static final Set<String> FACE = Set.of(
        "int literal(int)", "int triple(int,int,int)", "int remove(int,int,int)",
        "void axioms(boolean)", "void count(int)", "int run()", "int closed(int,int)",
        "int find(int,int,int)", "int trace(int)", "int proof(int,int)", "int rule(int)",
        "int told(int)");

    public static void main(String[] args) {
        Check check = new Check();
        Class<?> face = RdfsRules.class;
        check.due("public and final", Modifier.isPublic(face.getModifiers()) && Modifier.isFinal(face.getModifiers()));
        Set<String> seen = new TreeSet<>();
        for (Method method : face.getDeclaredMethods()) {
            if (!Modifier.isPrivate(method.getModifiers())) {
                String text = method.toString();
                text = text.replaceAll("^public ", "").replaceAll(" throws .*", "").replace("RdfsRules.", "");
                seen.add(text);
            }
        }
        check.due("methods " + seen, seen.equals(FACE));
        Set<String> constants = new TreeSet<>();
        for (Field field : face.getDeclaredFields()) {
            if (!Modifier.isPrivate(field.getModifiers())) {
                constants.add(Modifier.toString(field.getModifiers()) + " " + field.getName());
            }
        }
        check.due("constants " + constants,
            constants.equals(Set.of("public static final NONE", "public static final AXIOM")));
        Constructor<?>[] constructors = face.getDeclaredConstructors();
        check.due("one constructor", constructors.length == 1
            && constructors[0].toString().equals("public RdfsRules(int)"));
        check.end();
    }
}
