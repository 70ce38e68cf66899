import java.io.IOException;
import java.lang.reflect.Field;
import java.lang.reflect.Member;
import java.lang.reflect.Method;
import java.lang.reflect.Modifier;
import java.nio.file.Files;
import java.nio.file.Path;
import java.util.Arrays;
import java.util.List;
import java.util.TreeSet;
import java.util.regex.Matcher;
import java.util.regex.Pattern;
import java.util.stream.Collectors;
import java.util.stream.Stream;

/** The public face, and those rules of ../shared/LANGUAGE.md that can be seen without reading as a person reads. */
public final class LanguageTest {
    private static final Path SOURCE = Path.of("src/main/java/ReleaseTerms.java");
    private static final Path DOCUMENT = Path.of("../shared/DOC.md");

    private static final List<String> BANNED = List.of("throw", "throws", "try", "catch", "finally", "synchronized",
            "assert", "import", "package", "protected", "->", "::", "equals", "hashCode", "toString", "Object", "var",
            "System\\.(?!arraycopy\\b)\\w+", "Math\\.(?!min\\b|max\\b|abs\\b)\\w+", "Integer\\.(?!bitCount\\b)\\w+",
            "double", "float", "static\\s*\\{", "new (?!int\\[|long\\[|[A-Z]\\w+\\(\\))");

    public static void main(String[] args) throws IOException {
        String code = Files.readString(SOURCE)
                .replaceAll("(?s)/\\*.*?\\*/", "").replaceAll("//[^\\n]*", "").replaceAll("\"[^\"\\n]*\"", "\"\"");
        face();
        members();
        for (String banned : BANNED) {
            Matcher m = Pattern.compile(banned.matches("\\w+") ? "\\b" + banned + "\\b" : banned).matcher(code);
            Due.due("no " + banned + " in the class", m.results().count(), 0);
        }
        methodLengths(code);
        Due.end("LanguageTest");
    }

    private static void same(String what, Object got, Object want) {
        Due.due(what + ": " + got + " beside " + want, got.equals(want) ? 1 : 0, 1);
    }

    /** The public methods are those of the document's face, with their types. */
    private static void face() throws IOException {
        TreeSet<String> want = new TreeSet<>();
        for (String line : Files.readAllLines(DOCUMENT)) {
            Matcher m = Pattern.compile("    public (int) (\\w+)\\((.*)\\);").matcher(line);
            if (m.matches()) {
                want.add(m.group(1) + " " + m.group(2) + "(" + m.group(3).replaceAll(" \\w+(,|$)", "$1") + ")");
            }
        }
        TreeSet<String> got = new TreeSet<>();
        for (Method m : ReleaseTerms.class.getDeclaredMethods()) {
            if (!Modifier.isPrivate(m.getModifiers())) {
                got.add(m.getReturnType() + " " + m.getName() + "("
                        + Stream.of(m.getParameterTypes()).map(Class::getName).collect(Collectors.joining(", ")) + ")");
            }
        }
        same("the face", got, want);
        Due.due("calls of the face", want.size(), 48);
        Due.due("constructors", ReleaseTerms.class.getDeclaredConstructors().length, 1);
        Due.due("the class is public and final", ReleaseTerms.class.getModifiers(), Modifier.PUBLIC | Modifier.FINAL);
    }

    private static void members() {
        List<String> names = Arrays.stream(ReleaseTerms.class.getDeclaredMethods())
                .filter(m -> Modifier.isPublic(m.getModifiers())).map(Method::getName).toList();
        for (Field f : ReleaseTerms.class.getDeclaredFields()) {
            Due.due(f + " is private", Modifier.isPrivate(f.getModifiers()) ? 1 : 0, 1);
        }
        Class<?>[] inside = ReleaseTerms.class.getDeclaredClasses();
        Due.due("at most twelve classes", inside.length + 1 <= 12 ? 1 : 0, 1);
        for (Class<?> c : inside) {
            Due.due(c + " is static", Modifier.isStatic(c.getModifiers()) ? 1 : 0, 1);
            Due.due(c + " is not public", Modifier.isPublic(c.getModifiers()) ? 1 : 0, 0);
        }
        Stream.concat(Stream.of(ReleaseTerms.class), Stream.of(inside)).forEach(c -> membersOf(c, names));
    }

    private static void membersOf(Class<?> c, List<String> publicNames) {
        int fields = 0;
        for (Field f : c.getDeclaredFields()) {
            fields += isStatic(f) ? 0 : 1;
            Due.due(f + " is final if it is static", isStatic(f) && !Modifier.isFinal(f.getModifiers()) ? 1 : 0, 0);
        }
        Due.due(c + " has few fields", fields <= 20 ? 1 : 0, 1);
        for (Method m : c.getDeclaredMethods()) {
            Due.due(m + " has few parameters", m.getParameterCount() <= 7 ? 1 : 0, 1);
            boolean isOfTheFace = c == ReleaseTerms.class && Modifier.isPublic(m.getModifiers());
            Due.due(m + " has a name of its own", !isOfTheFace && publicNames.contains(m.getName()) ? 1 : 0, 0);
        }
    }

    private static boolean isStatic(Member m) {
        return Modifier.isStatic(m.getModifiers());
    }

    private static void methodLengths(String code) {
        Matcher m = Pattern.compile("(?m)^( {4}| {8})((?:public |private |static )*\\w[\\w\\[\\]]* )?\\w+\\([^;]*?\\) \\{$")
                .matcher(code);
        int methods = 0;
        while (m.find()) {
            int end = code.indexOf("\n" + m.group(1) + "}", m.end());
            long lines = code.substring(m.end(), end).lines().count();
            methods++;
            Due.due(m.group().trim() + " is short", lines <= 60 ? 1 : 0, 1);
        }
        Due.due("methods were found", methods > 100 ? 1 : 0, 1);
    }
}
