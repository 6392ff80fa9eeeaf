import java.io.IOException;
import java.lang.reflect.InvocationTargetException;
import java.lang.reflect.Method;
import java.nio.file.Files;
import java.nio.file.Path;
import java.util.regex.Matcher;
import java.util.regex.Pattern;

/** README.md's example answers as it says there, and every public method is told of in its tables. */
public final class ReadmeTest {
    private static final Pattern TEXT = Pattern.compile("```text\n(.*?)```", Pattern.DOTALL);
    private static final Pattern CODE = Pattern.compile("```java\n(.*?)```", Pattern.DOTALL);
    private static final Pattern CALL = Pattern.compile("(?m)^jars\\.(\\w+)\\((.*?)\\); +// (-?\\d+|true|false):");
    private static final int LEAST_CALLS = 37;

    public static void main(String[] args) throws IOException, ReflectiveOperationException {
        Due.topic("README.md");
        String readme = Files.readString(Path.of("README.md"));
        AyeJars jars = new AyeJars();
        String text = first(TEXT, readme);
        Due.feed(jars, text);
        Matcher call = CALL.matcher(first(CODE, readme));
        int calls = 0;
        while (call.find()) {
            answer(jars, call.group(1), call.group(2), call.group(3));
            calls++;
        }
        Due.is("calls of the example: " + calls, calls >= LEAST_CALLS, true);
        tables(readme);
        Due.close("ReadmeTest");
    }

    private static String first(Pattern block, String readme) {
        Matcher found = block.matcher(readme);
        boolean is = found.find();
        Due.is("a block " + block, is, true);
        return is ? found.group(1) : "";
    }

    private static void answer(AyeJars jars, String name, String told, String due)
            throws IllegalAccessException, InvocationTargetException {
        String[] words = told.isEmpty() ? new String[0] : told.split(", ");
        Object[] arguments = new Object[words.length];
        for (int i = 0; i < words.length; i++) {
            arguments[i] = words[i].matches("true|false") ? (Object) Boolean.valueOf(words[i]) : Integer.valueOf(words[i]);
        }
        Object got = methodNamed(name).invoke(jars, arguments);
        Due.is(name + "(" + told + ") answers " + due + ", not " + got, got.toString().equals(due), true);
    }

    private static Method methodNamed(String name) {
        for (Method method : AyeJars.class.getDeclaredMethods()) {
            if (method.getName().equals(name)) {
                return method;
            }
        }
        throw new IllegalArgumentException("no method " + name);
    }

    private static void tables(String readme) {
        for (Method method : AyeJars.class.getMethods()) {
            if (method.getDeclaringClass() == AyeJars.class) {
                Pattern row = Pattern.compile("(?m)^\\| [^|]*`" + method.getName() + "\\(");
                Due.is("a row for " + method.getName(), row.matcher(readme).find(), true);
            }
        }
    }
}
