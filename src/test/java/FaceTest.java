import java.lang.reflect.Field;
import java.lang.reflect.Member;
import java.lang.reflect.Method;
import java.lang.reflect.Modifier;
import java.util.Set;
import java.util.TreeSet;

/** The public face: what the document lists, and nothing besides. */
public final class FaceTest {
    private static final Set<String> METHODS = Set.of(
        "int emit(int,int,int)", "int method(int,int,int)", "int handler(int,int,int,int)",
        "int range(int,int,int)", "int clear()", "int run(int,int)", "long value()", "int explore(int)",
        "long test(int,int)", "long event(int,int,int)", "boolean covered(int,int)", "boolean complete()",
        "int count(int)");
    private static final Set<String> CONSTANTS = Set.of(
        "int REFUSED", "int FULL", "long NONE", "int RETURNED", "int THROWN", "int TIRED", "int BROKEN",
        "int DEEP", "int LIMIT");

    public static void main(String[] args) throws Exception {
        Set<String> methods = new TreeSet<>();
        for (Method m : PathExplorer.class.getDeclaredMethods()) {
            if (seen(m)) {
                StringBuilder parameters = new StringBuilder();
                for (Class<?> type : m.getParameterTypes()) {
                    parameters.append(parameters.length() > 0 ? "," : "").append(type);
                }
                methods.add(m.getReturnType() + " " + m.getName() + "(" + parameters + ")");
                Check.due(m.getName() + " is an object's public method", m.getModifiers(), Modifier.PUBLIC);
            }
        }
        Check.due("the methods are " + methods, methods.equals(METHODS), true);
        Set<String> constants = new TreeSet<>();
        for (Field f : PathExplorer.class.getDeclaredFields()) {
            if (seen(f)) {
                constants.add(f.getType() + " " + f.getName());
                Check.due(f.getName() + " is a public constant", f.getModifiers(),
                    Modifier.PUBLIC | Modifier.STATIC | Modifier.FINAL);
            }
        }
        Check.due("the constants are " + constants, constants.equals(CONSTANTS), true);
        Check.due("one constructor", PathExplorer.class.getDeclaredConstructors().length, 1);
        Check.due("it is public", PathExplorer.class.getDeclaredConstructor().getModifiers(), Modifier.PUBLIC);
        Check.due("the class", PathExplorer.class.getModifiers(), Modifier.PUBLIC | Modifier.FINAL);
        constantValues();
        Check.end();
    }

    private static boolean seen(Member member) {
        return !Modifier.isPrivate(member.getModifiers()) && !member.isSynthetic();
    }

    private static void constantValues() {
        Check.due("REFUSED", PathExplorer.REFUSED, -1);
        Check.due("FULL", PathExplorer.FULL, -2);
        Check.due("NONE", PathExplorer.NONE, 1000000000000L);
        Check.due("RETURNED", PathExplorer.RETURNED, 0);
        Check.due("THROWN", PathExplorer.THROWN, 1);
        Check.due("TIRED", PathExplorer.TIRED, 2);
        Check.due("BROKEN", PathExplorer.BROKEN, 3);
        Check.due("DEEP", PathExplorer.DEEP, 4);
        Check.due("LIMIT", PathExplorer.LIMIT, 5);
    }
}
