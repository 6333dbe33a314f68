import java.lang.reflect.Method;
import java.nio.file.Files;
import java.nio.file.Path;
import java.util.regex.Matcher;
import java.util.regex.Pattern;

/** Does the calls of README.md's example; each comment begins with the answer. */
public final class ReadmeTest {
    private static final Pattern CALL = Pattern.compile("x\\.(\\w+)\\(([-0-9, ]*)\\);\\s*// (-?\\w+).*");

    public static void main(String[] args) throws Exception {
        PathExplorer x = new PathExplorer();
        int calls = 0;
        for (String line : Files.readAllLines(Path.of("README.md"))) {
            if (line.startsWith("x.")) {
                Matcher call = CALL.matcher(line);
                Check.due("README.md says what is answered: " + line, call.matches(), true);
                Check.due("README.md: " + line, answer(x, call.group(1), call.group(2)), meant(call.group(3)));
                calls++;
            }
        }
        Check.due("there is an example", calls > 0, true);
        Check.end();
    }

    private static long answer(PathExplorer x, String name, String numbers) throws Exception {
        String[] words = numbers.isEmpty() ? new String[0] : numbers.split(", ");
        Class<?>[] types = new Class<?>[words.length];
        Object[] arguments = new Object[words.length];
        for (int i = 0; i < words.length; i++) {
            types[i] = int.class;
            arguments[i] = Integer.valueOf(words[i]);
        }
        Method method = PathExplorer.class.getMethod(name, types);
        Object answer = method.invoke(x, arguments);
        return answer instanceof Boolean yes ? (yes ? 1 : 0) : ((Number) answer).longValue();
    }

    /** A number, true or false, or the name of a constant. */
    private static long meant(String word) throws Exception {
        if (word.equals("true") || word.equals("false")) {
            return word.equals("true") ? 1 : 0;
        }
        return Character.isUpperCase(word.charAt(0))
            ? PathExplorer.class.getField(word).getLong(null)
            : Long.parseLong(word);
    }
}
