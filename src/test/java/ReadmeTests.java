import java.lang.reflect.Method;
import java.lang.reflect.Modifier;
import java.nio.file.Files;
import java.nio.file.Path;
import java.util.Arrays;
import java.util.Set;
import java.util.TreeSet;
import java.util.regex.Matcher;
import java.util.regex.Pattern;
import java.util.stream.Collectors;

/** The example of README.md, line by line on one object: each line answers what stands behind it. */
public final class ReadmeTests {
    private static final Pattern TOLD = Pattern.compile("for \\(char c : \"([^\"]+)\"\\.toCharArray\\(\\)\\) x\\.letter\\(c\\);");
    private static final Pattern CALL = Pattern.compile("x\\.(\\w+)\\(([-0-9, ]*)\\); +// (-?\\d+): .+");

    private static final EatenByDusk EXAMPLE = new EatenByDusk();
    private static final Set<String> CALLED = new TreeSet<>();
    private static int wrong = 0;

    private static void due(boolean holds, String what) {
        if (holds) return;
        wrong++;
        System.out.println("README.md: " + what);
    }

    private static void line(String line) throws ReflectiveOperationException {
        Matcher told = TOLD.matcher(line);
        Matcher call = CALL.matcher(line);
        if (told.matches()) {
            told.group(1).chars().forEach(EXAMPLE::letter);
            CALLED.add("letter");
        } else if (call.matches()) {
            CALLED.add(call.group(1));
            int got = ask(call.group(1), call.group(2));
            due(got == Integer.parseInt(call.group(3)), line + " answered " + got);
        } else {
            due(line.isEmpty() || line.equals("EatenByDusk x = new EatenByDusk();"), "a line that can't be read: " + line);
        }
    }

    private static int ask(String name, String told) throws ReflectiveOperationException {
        Object[] numbers = told.isEmpty() ? new Object[0] : Arrays.stream(told.split(", ")).map(Integer::valueOf).toArray();
        Class<?>[] types = new Class<?>[numbers.length];
        Arrays.fill(types, int.class);
        return (int) EatenByDusk.class.getMethod(name, types).invoke(EXAMPLE, numbers);
    }

    public static void main(String[] args) throws Exception {
        String readme = Files.readString(Path.of("README.md"));
        Matcher example = Pattern.compile("(?s)```java\n(.*?)```").matcher(readme);
        due(example.find(), "there is no example");
        for (String line : example.group(1).split("\n")) {
            line(line);
        }
        due(!example.find(), "there is a second example");
        Set<String> face = Arrays.stream(EatenByDusk.class.getDeclaredMethods()).filter(m -> Modifier.isPublic(m.getModifiers()))
            .map(Method::getName).collect(Collectors.toCollection(TreeSet::new));
        face.removeAll(CALLED);
        due(face.isEmpty(), "calls without an example: " + face);
        System.out.println("ReadmeTests: " + CALLED.size() + " calls, " + wrong + " wrong");
        if (wrong != 0) System.exit(1);
    }
}
