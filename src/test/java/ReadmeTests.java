import java.io.IOException;
import java.lang.reflect.InvocationTargetException;
import java.lang.reflect.Method;
import java.nio.file.Files;
import java.nio.file.Path;
import java.util.Set;
import java.util.TreeSet;
import java.util.regex.Matcher;
import java.util.regex.Pattern;

/** Makes the calls of README.md, one behind the other, and looks that they answer what stands there. */
public final class ReadmeTests {
    private static final Path README = Path.of("README.md");
    private static final Pattern CALL =
        Pattern.compile("atlas\\.(\\w+)\\((.*)\\); +// (throws \\w+|\\w+)(: .*)?");

    public static void main(String[] args) throws IOException, ReflectiveOperationException {
        DialectAtlas atlas = new DialectAtlas();
        Set<String> untold = namesOfCalls();
        int wrong = 0;
        for (String line : Files.readAllLines(README)) {
            if (line.startsWith("atlas.")) {
                Matcher call = CALL.matcher(line);
                boolean asDue = call.matches() && isAsTold(atlas, call);
                if (!asDue) {
                    System.out.println("not as due: " + line);
                    wrong++;
                } else {
                    untold.remove(call.group(1));
                }
            }
        }
        System.out.println("ReadmeTests: " + wrong + " answers not as due, calls without a line: " + untold);
        if (wrong != 0 || !untold.isEmpty()) {
            System.exit(1);
        }
    }

    private static Set<String> namesOfCalls() {
        Set<String> names = new TreeSet<>();
        for (Method method : DialectAtlas.class.getMethods()) {
            if (method.getDeclaringClass() == DialectAtlas.class) {
                names.add(method.getName());
            }
        }
        return names;
    }

    private static boolean isAsTold(DialectAtlas atlas, Matcher call) throws ReflectiveOperationException {
        String told = call.group(3).equals("NONE") ? "-1" : call.group(3);
        return told.equals(answer(atlas, call.group(1), call.group(2).split(", ")));
    }

    private static String answer(DialectAtlas atlas, String name, String[] words)
            throws ReflectiveOperationException {
        Class<?>[] types = new Class<?>[words.length];
        Object[] given = new Object[words.length];
        for (int i = 0; i < words.length; i++) {
            types[i] = int.class;
            given[i] = number(words[i]);
        }
        try {
            return DialectAtlas.class.getMethod(name, types).invoke(atlas, given).toString();
        } catch (InvocationTargetException thrown) {
            return "throws " + thrown.getCause().getClass().getSimpleName();
        }
    }

    private static int number(String word) throws ReflectiveOperationException {
        String constant = "DialectAtlas.";
        if (word.startsWith(constant)) {
            return DialectAtlas.class.getField(word.substring(constant.length())).getInt(null);
        }
        return Integer.parseInt(word);
    }
}
