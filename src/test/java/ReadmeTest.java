import java.io.IOException;
import java.lang.reflect.InvocationTargetException;
import java.lang.reflect.Method;
import java.lang.reflect.Modifier;
import java.nio.file.Files;
import java.nio.file.Path;
import java.util.regex.Matcher;
import java.util.regex.Pattern;

/** README.md: its examples answer what their comments tell, and it names every call of the face. */
public final class ReadmeTest {
    private static final Pattern EXAMPLE = Pattern.compile("x\\.(\\w+)\\((.*)\\); +// (-?\\d+)\\b.*");
    private static final int LEAST_EXAMPLES = 40;

    public static void main(String[] args) throws IOException, ReflectiveOperationException {
        String page = Files.readString(Path.of("README.md"));
        ReleaseTerms x = new ReleaseTerms();
        int examples = 0;
        for (String line : page.lines().toList()) {
            Matcher m = EXAMPLE.matcher(line);
            if (m.matches()) {
                Due.due("README.md: " + line, answer(x, m.group(1), m.group(2)), Integer.parseInt(m.group(3)));
                examples++;
            } else {
                Due.due("README.md: an example without an answer: " + line, line.startsWith("x.") ? 1 : 0, 0);
            }
        }
        Due.due("README.md has examples", examples >= LEAST_EXAMPLES ? 1 : 0, 1);
        for (Method call : ReleaseTerms.class.getDeclaredMethods()) {
            boolean isTold = page.contains("`" + call.getName() + "`");
            Due.due("README.md names " + call, isPublic(call) && !isTold ? 1 : 0, 0);
        }
        Due.due("README.md tells how to run the tests", page.contains("\n.ci/run\n") ? 1 : 0, 1);
        Due.end("ReadmeTest");
    }

    private static boolean isPublic(Method m) {
        return Modifier.isPublic(m.getModifiers());
    }

    private static int answer(ReleaseTerms x, String call, String arguments)
            throws IllegalAccessException, InvocationTargetException {
        String[] texts = arguments.isEmpty() ? new String[0] : arguments.split(", ");
        for (Method m : ReleaseTerms.class.getDeclaredMethods()) {
            if (isPublic(m) && m.getName().equals(call)) {
                Object[] values = new Object[m.getParameterCount()];
                for (int i = 0; i < values.length && i < texts.length; i++) {
                    boolean isNumber = m.getParameterTypes()[i] == int.class;
                    values[i] = isNumber ? (Object) Integer.decode(texts[i]) : (Object) Boolean.valueOf(texts[i]);
                }
                return (Integer) m.invoke(x, values);
            }
        }
        throw new IllegalStateException("README.md: no call " + call);
    }
}
