import java.io.IOException;
import java.lang.reflect.Method;
import java.lang.reflect.Modifier;
import java.nio.file.Files;
import java.nio.file.Path;
import java.util.Arrays;
import java.util.List;
import java.util.Set;
import java.util.TreeSet;
import java.util.regex.Matcher;
import java.util.regex.Pattern;

/** README.md shows every call of the face, and its run of calls answers what it says. */
public final class ReadmeTest {
    private static final Pattern CALL = Pattern.compile("x\\.(\\w+)\\((.*)\\); +// (-?\\d+)\\b.*");
    private static int wrong = 0;

    private static void wrong(String what) {
        wrong++;
        System.out.println(what);
    }

    private static Method method(String name) {
        return Arrays.stream(CeilingScheduler.class.getDeclaredMethods())
            .filter(m -> Modifier.isPublic(m.getModifiers()) && m.getName().equals(name)).findFirst().orElseThrow();
    }

    private static Object[] numbers(String arguments) {
        return arguments.isEmpty() ? new Object[0]
            : Arrays.stream(arguments.split(", ")).map(Integer::valueOf).toArray();
    }

    /** Every line of the example but the first is a call with its answer. */
    private static Set<String> runExample(List<String> example) throws ReflectiveOperationException {
        CeilingScheduler x = new CeilingScheduler();
        Set<String> called = new TreeSet<>();
        for (String line : example) {
            Matcher call = CALL.matcher(line);
            if (!call.matches()) {
                wrong("no call with its answer: " + line);
                continue;
            }
            Object answer = method(call.group(1)).invoke(x, numbers(call.group(2)));
            called.add(call.group(1));
            if (!answer.equals(Integer.valueOf(call.group(3)))) {
                wrong("answered " + answer + ": " + line);
            }
        }
        return called;
    }

    public static void main(String[] args) throws IOException, ReflectiveOperationException {
        List<String> lines = Files.readAllLines(Path.of("README.md"));
        int begin = lines.indexOf("```java");
        int end = lines.lastIndexOf("```");
        Set<String> called = runExample(lines.subList(begin + 2, end));
        for (Method m : CeilingScheduler.class.getDeclaredMethods()) {
            if (!Modifier.isPublic(m.getModifiers())) {
                continue;
            }
            if (!called.contains(m.getName())) {
                wrong("the example has no call of " + m.getName());
            }
            if (lines.stream().noneMatch(line -> line.startsWith("| `" + m.getName() + "("))) {
                wrong("no row tells what is answered by " + m.getName());
            }
        }
        System.out.println(wrong == 0 ? "README.md is as due" : wrong + " things in README.md are wrong");
        if (wrong != 0) {
            System.exit(1);
        }
    }
}
