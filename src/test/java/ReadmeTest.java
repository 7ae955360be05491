import java.io.IOException;
import java.lang.reflect.InvocationTargetException;
import java.lang.reflect.Method;
import java.nio.file.Files;
import java.nio.file.Path;
import java.util.regex.Matcher;
import java.util.regex.Pattern;

/** Makes the calls of README.md's example, read from there, so that the page can't tell what the class does not do. */
public final class ReadmeTest {
    private static final Pattern LINE = Pattern.compile("kernel\\.(\\w+)\\(([-0-9, ]*)\\); +// (\\w+)(:.*)?");
    private static final Check check = new Check();

    public static void main(String[] args) throws IOException, ReflectiveOperationException {
        FutexKernel kernel = new FutexKernel();
        int calls = 0;
        for (String line : Files.readAllLines(Path.of("README.md"))) {
            if (line.startsWith("kernel.")) {
                calls++;
                makeCall(kernel, line);
            }
        }
        check.due("README.md has an example", calls > 0, true);
        check.end("ReadmeTest");
    }

    private static void makeCall(FutexKernel kernel, String line) throws ReflectiveOperationException {
        Matcher parts = LINE.matcher(line);
        boolean readable = parts.matches();
        check.due(line + " is a call with its answer", readable, true);
        if (readable) {
            check.due(line, answer(kernel, parts.group(1), numbers(parts.group(2))), due(parts.group(3)));
        }
    }

    private static String answer(FutexKernel kernel, String name, Object[] numbers) throws IllegalAccessException {
        try {
            Object answer = method(name).invoke(kernel, numbers);
            return answer == null ? "nothing" : answer.toString();
        } catch (InvocationTargetException e) {
            return e.getCause().getClass().getSimpleName();
        }
    }

    private static Method method(String name) {
        for (Method method : FutexKernel.class.getMethods()) {
            if (method.getName().equals(name)) {
                return method;
            }
        }
        throw new IllegalStateException("README.md calls " + name + ", and there is no such call");
    }

    private static Object[] numbers(String text) {
        if (text.isEmpty()) {
            return new Object[0];
        }
        String[] parts = text.split(", ");
        Object[] numbers = new Object[parts.length];
        for (int place = 0; place < parts.length; place++) {
            numbers[place] = Integer.valueOf(parts[place]);
        }
        return numbers;
    }

    /** The number of a constant, where the page gives its name. */
    private static String due(String word) throws ReflectiveOperationException {
        boolean isConstant = word.matches("[A-Z_]+");
        return isConstant ? String.valueOf(FutexKernel.class.getField(word).getInt(null)) : word;
    }
}
