import java.io.File;
import java.io.IOException;
import java.lang.reflect.InvocationTargetException;
import java.lang.reflect.Method;
import java.lang.reflect.Modifier;
import java.nio.file.Files;
import java.nio.file.Path;
import java.util.Arrays;
import java.util.regex.Matcher;
import java.util.regex.Pattern;

/** README.md: its calls answer what stands behind them, and it names every call and every test. */
public final class ReadmeTest {
    private static final Pattern CODE = Pattern.compile("(?s)```java\n(.*?)\n```");
    private static final Pattern CALL = Pattern.compile("map\\.(\\w+)\\(([^)]*)\\); +// (throws \\w+|[-.\\d]+)(:.*)?");
    private static final String NEW = "ScratchMap map = new ScratchMap();";

    private ReadmeTest() {
    }

    public static void main(String[] args) throws IOException {
        String readme = Files.readString(Path.of("README.md"));
        int calls = 0;
        ScratchMap map = new ScratchMap();
        for (Matcher code = CODE.matcher(readme); code.find();) {
            for (String line : code.group(1).split("\n")) {
                Matcher told = CALL.matcher(line);
                if (line.equals(NEW)) {
                    map = new ScratchMap();
                } else if (told.matches()) {
                    calls++;
                    Due.is(line, outcome(map, told.group(1), told.group(2)), told.group(3));
                } else {
                    Due.is(line, "neither a new object nor a call with its answer", "one of them");
                }
            }
        }
        Due.is("calls in README.md", calls > 10, true);
        namesAllCalls(readme);
        namesAllTests(readme);
        Due.end();
    }

    private static String outcome(ScratchMap map, String name, String arguments) {
        Object[] values = Arrays.stream(arguments.split(", ")).filter(a -> !a.isEmpty()).map(ReadmeTest::number).toArray();
        Class<?>[] types = new Class<?>[values.length];
        Arrays.fill(types, int.class);
        try {
            return String.valueOf(ScratchMap.class.getMethod(name, types).invoke(map, values));
        } catch (InvocationTargetException e) {
            return "throws " + e.getCause().getClass().getSimpleName();
        } catch (ReflectiveOperationException e) {
            return e.toString();
        }
    }

    private static Object number(String argument) {
        return argument.startsWith("'") ? argument.charAt(1) : Integer.parseInt(argument);
    }

    private static void namesAllCalls(String readme) {
        for (Method method : ScratchMap.class.getDeclaredMethods()) {
            if (Modifier.isPublic(method.getModifiers())) {
                Due.is("README.md names " + method.getName(), readme.contains("`" + method.getName() + "`"), true);
            }
        }
    }

    private static void namesAllTests(String readme) {
        String[] files = new File("src/test/java").list();
        Due.is("tests are found", files != null && files.length > 0, true);
        for (String file : files) {
            String name = file.replace(".java", "");
            boolean named = readme.contains("`" + name + "`") || name.endsWith("Edges");
            Due.is("README.md names " + name, named, true);
        }
    }
}
