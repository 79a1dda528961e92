import java.io.IOException;
import java.lang.reflect.Method;
import java.nio.file.Files;
import java.nio.file.Path;
import java.util.HashSet;
import java.util.Set;
import java.util.TreeSet;
import java.util.regex.Matcher;
import java.util.regex.Pattern;

/** README.md's example: each call answers what stands behind it there, and every call of the face is shown. */
public final class ReadmeTest {
    private static final Pattern EXAMPLE = Pattern.compile("```java\n(.*?)```", Pattern.DOTALL);
    private static final Pattern CALL = Pattern.compile("x\\.(\\w+)\\(([-\\d, ]*)\\); +// (\\S+?)(:.*)?");

    private static int wrong = 0;

    public static void main(String[] args) throws IOException, ReflectiveOperationException {
        Matcher example = EXAMPLE.matcher(Files.readString(Path.of("README.md")));
        if (!example.find()) {
            System.out.println("README.md has no example");
            System.exit(1);
        }
        Set<String> shown = new TreeSet<>();
        EvenSwitch x = new EvenSwitch();
        String[] lines = example.group(1).split("\n");
        due("the first line", lines[0], "EvenSwitch x = new EvenSwitch();");
        for (int n = 1; n < lines.length; n++) {
            call(x, lines[n], shown);
        }
        Set<String> face = new TreeSet<>();
        for (Method method : publicMethods()) {
            face.add(method.getName());
        }
        due("the calls that are shown", shown.toString(), face.toString());
        System.out.println(wrong == 0 ? "all answers are as due" : wrong + " answers are not as due");
        if (wrong != 0) {
            System.exit(1);
        }
    }

    private static Set<Method> publicMethods() {
        Set<Method> methods = new HashSet<>(Set.of(EvenSwitch.class.getMethods()));
        methods.removeIf(method -> method.getDeclaringClass() != EvenSwitch.class);
        return methods;
    }

    private static void call(EvenSwitch x, String line, Set<String> shown) throws ReflectiveOperationException {
        if (line.startsWith("x.reset();")) {
            x.reset();
            shown.add("reset");
            return;
        }
        Matcher parts = CALL.matcher(line);
        if (!parts.matches()) {
            due("a line of the example", line, "a call and its answer");
            return;
        }
        String[] words = parts.group(2).isEmpty() ? new String[0] : parts.group(2).split(", ");
        Object[] numbers = new Object[words.length];
        for (int n = 0; n < words.length; n++) {
            numbers[n] = Integer.valueOf(words[n]);
        }
        for (Method method : publicMethods()) {
            if (method.getName().equals(parts.group(1)) && method.getParameterCount() == numbers.length) {
                shown.add(method.getName());
                due(line, method.invoke(x, numbers), parts.group(3));
                return;
            }
        }
        due("a call of the example", line, "one of the face");
    }

    private static void due(String what, Object got, String want) {
        if (!want.equals(String.valueOf(got))) {
            wrong++;
            System.out.println(what + " answered " + got + ", due is " + want);
        }
    }
}
