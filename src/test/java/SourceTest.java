import java.io.IOException;
import java.lang.reflect.Field;
import java.lang.reflect.Modifier;
import java.nio.file.Files;
import java.nio.file.Path;
import java.util.ArrayList;
import java.util.Arrays;
import java.util.List;
import java.util.Set;
import java.util.regex.Matcher;
import java.util.regex.Pattern;
import java.util.stream.Collectors;

/** What ../shared/LANGUAGE.md keeps out of the program; .ci/run gives the program's path. */
public final class SourceTest {
    private static final String[] FORBIDDEN = {"\\bimport\\b", "\\bpackage\\b", "\\bcatch\\b", "\\bfinally\\b", "\\bsynchronized\\b",
        "\\bassert\\b", "->", "::", "\\bstatic \\{", "\\bequals\\b", "\\bhashCode\\b", "\\btoString\\b", "Exact\\(", "\\bDouble\\.",
        "\\bSystem\\.(?!arraycopy)", "\\bThread\\b", "\\bRuntime\\b", "\\bObject\\b", "\\binstanceof\\b", "\\bprotected\\b"};
    private static final Pattern NEW = Pattern.compile("\\bnew ");
    /** Objects are made when a ScratchMap is, and to be thrown: so a run of calls takes no more room. */
    private static final Pattern NEW_ALLOWED = Pattern.compile(
        "throw new (IndexOutOfBounds|IllegalArgument|IllegalState)Exception\\(\"[^\"]*\"\\);"
        + "|private final \\w+(\\[\\])? \\w+ = new |^ *(saved|lines)\\[i\\] = new (State|Line)\\(\\);");
    private static final Pattern CALL_BY_CLASS = Pattern.compile("\\b([A-Z]\\w+)\\.(\\w+)\\(");
    private static final Pattern LIBRARY = Pattern.compile("Math\\.(abs|max|min)|Integer\\.bitCount|System\\.arraycopy");
    private static final Pattern METHOD = Pattern.compile("^( {4}| {8})(?=\\w)(?!(if|for|while|switch) )[\\w \\[\\]]+\\((.*)\\).*\\{$");
    private static final List<Class<?>> TYPES = types();
    private static final Set<String> CLASSES = TYPES.stream().map(Class::getSimpleName).collect(Collectors.toSet());
    private static final int MOST_LINES = 60;
    private static final int MOST_PARAMETERS = 7;
    private static final int MOST_CLASSES = 12;
    private static final int MOST_FIELDS = 20;

    private SourceTest() {
    }

    public static void main(String[] args) throws IOException {
        String path = args.length > 0 ? args[0] : "src/main/java/ScratchMap.java";
        List<String> lines = Files.readAllLines(Path.of(path));
        int number = 0;
        for (String line : lines) {
            number++;
            String code = line.replaceAll("/\\*\\*.*", "").replaceAll("^ *\\*.*", "").replaceAll("//.*", "");
            for (String word : FORBIDDEN) {
                Due.is("line " + number + " has " + word, Pattern.compile(word).matcher(code).find(), false);
            }
            onlyListedLibrary(number, code);
            Due.is("line " + number + " has signs beyond ASCII", code.chars().anyMatch(sign -> sign > 126), false);
            boolean makes = NEW.matcher(code).find();
            Due.is("line " + number + " makes an object in a call", makes && !NEW_ALLOWED.matcher(code).find(), false);
        }
        Due.is("lines read", number > 100, true);
        methodsAreShort(lines);
        classesAreSmall();
        Due.end();
    }

    private static List<Class<?>> types() {
        List<Class<?>> types = new ArrayList<>(Arrays.asList(ScratchMap.class.getDeclaredClasses()));
        types.add(ScratchMap.class);
        return types;
    }

    private static void onlyListedLibrary(int number, String code) {
        for (Matcher call = CALL_BY_CLASS.matcher(code); call.find();) {
            boolean own = CLASSES.contains(call.group(1));
            boolean listed = LIBRARY.matcher(call.group(1) + "." + call.group(2)).matches();
            Due.is("line " + number + " calls " + call.group(), own || listed, true);
        }
    }

    private static void methodsAreShort(List<String> lines) {
        int methods = 0;
        for (int i = 0; i < lines.size(); i++) {
            Matcher head = METHOD.matcher(lines.get(i));
            if (head.matches()) {
                methods++;
                int length = lines.subList(i, lines.size()).indexOf(head.group(1) + "}") + 1;
                Due.is("the method in line " + (i + 1) + " is short", length > 0 && length <= MOST_LINES, true);
                Due.is("its parameters are few", head.group(3).split(",").length <= MOST_PARAMETERS, true);
            }
        }
        Due.is("methods found", methods > 50, true);
    }

    private static void classesAreSmall() {
        Due.is("classes are few", CLASSES.size() < MOST_CLASSES, true);
        for (Class<?> type : TYPES) {
            int fields = 0;
            for (Field field : type.getDeclaredFields()) {
                boolean isStatic = Modifier.isStatic(field.getModifiers());
                fields += isStatic ? 0 : 1;
                Due.is(type + "." + field.getName() + " is static and not final", isStatic && !Modifier.isFinal(field.getModifiers()), false);
            }
            Due.is(type + " has few fields", fields <= MOST_FIELDS, true);
        }
    }
}
