import java.io.IOException;
import java.lang.reflect.Constructor;
import java.lang.reflect.Field;
import java.lang.reflect.Method;
import java.lang.reflect.Modifier;
import java.nio.file.Files;
import java.nio.file.Path;
import java.util.ArrayList;
import java.util.Arrays;
import java.util.List;
import java.util.TreeSet;
import java.util.stream.Collectors;

/** The public face, and nothing beside it. */
public final class FaceTest {
    private static final String INDEX = "IndexOutOfBoundsException";
    private static final String ARGUMENT = "IllegalArgumentException";
    private static final String STATE = "IllegalStateException";
    /** The exceptions are declared in the document's order. */
    private static final String[] METHODS = {
        "int write(int, int) throws " + INDEX + ", " + ARGUMENT + ", " + STATE,
        "int fill(int, int, int) throws " + INDEX + ", " + ARGUMENT, "int drop(int) throws " + INDEX,
        "int fail(int, int) throws " + ARGUMENT + ", " + STATE, "int heal(int, int) throws " + ARGUMENT + ", " + STATE,
        "int tidy(int) throws " + ARGUMENT, "int set(int, int) throws " + INDEX + ", " + ARGUMENT,
        "int append(int) throws " + ARGUMENT + ", " + STATE, "int clearBuffer()", "int firstError()",
        "int read() throws " + ARGUMENT, "int undo() throws " + STATE,
        "int cell(int, int, int) throws " + ARGUMENT, "int block(int, int) throws " + INDEX + ", " + ARGUMENT,
        "int line(int, int) throws " + INDEX + ", " + ARGUMENT, "int count(int) throws " + ARGUMENT,
        "int setting(int) throws " + INDEX, "int ifFailed(int, int, int) throws " + ARGUMENT,
        "int worst()", "int untidy()", "int find(int) throws " + ARGUMENT, "double goodShare()", "long digest()"};

    private FaceTest() {
    }

    public static void main(String[] args) throws IOException {
        Due.is("NONE", ScratchMap.NONE, -1);
        Due.is("the class", ScratchMap.class.getModifiers(), Modifier.PUBLIC | Modifier.FINAL);
        TreeSet<String> names = new TreeSet<>();
        for (Method method : ScratchMap.class.getDeclaredMethods()) {
            if (!Modifier.isPrivate(method.getModifiers()) && !method.isSynthetic()) {
                names.add(declaration(method));
                Due.is("public " + method.getName(), method.getModifiers(), Modifier.PUBLIC);
            }
        }
        Due.is("the methods", names, new TreeSet<>(Arrays.asList(METHODS)));
        noOtherMembers();
        noPrivateNamesake(names);
        sourceTellsTheFace(args.length > 0 ? args[0] : "src/main/java/ScratchMap.java");
        Due.end();
    }

    private static String declaration(Method method) {
        String arguments = joined(method.getParameterTypes());
        String thrown = joined(method.getExceptionTypes());
        return method.getReturnType() + " " + method.getName() + "(" + arguments + ")" + (thrown.isEmpty() ? "" : " throws " + thrown);
    }

    private static String joined(Class<?>[] types) {
        return Arrays.stream(types).map(Class::getSimpleName).collect(Collectors.joining(", "));
    }

    /** Names of parameters are not in the class file, so the lines of the document's face are looked for in the program. */
    private static void sourceTellsTheFace(String program) throws IOException {
        List<String> told = new ArrayList<>();
        for (String line : Files.readAllLines(Path.of(program))) {
            told.add(line.strip().replaceAll(" \\{$", ";"));
        }
        String document = Files.readString(Path.of("../shared/DOC.md"));
        String face = document.substring(document.indexOf("```java") + 7);
        int lines = 0;
        for (String line : face.substring(0, face.indexOf("```")).split("\n")) {
            String due = line.strip().replaceAll(" \\{$", ";");
            if (due.startsWith("public ")) {
                lines++;
                Due.is("the program has: " + due, told.contains(due), true);
            }
        }
        Due.is("the face's lines: class, constant, constructor, methods", lines, 3 + METHODS.length);
    }

    private static void noOtherMembers() {
        for (Field field : ScratchMap.class.getDeclaredFields()) {
            Due.is("field " + field.getName() + " is private", Modifier.isPrivate(field.getModifiers()), !field.getName().equals("NONE"));
        }
        Constructor<?>[] constructors = ScratchMap.class.getDeclaredConstructors();
        Due.is("constructors", constructors.length, 1);
        Due.is("the constructor", constructors[0].getModifiers() + " " + constructors[0].getParameterCount(), Modifier.PUBLIC + " 0");
        for (Class<?> inner : ScratchMap.class.getDeclaredClasses()) {
            Due.is("class " + inner.getName() + " is private and static", inner.getModifiers() & (Modifier.PRIVATE | Modifier.STATIC), Modifier.PRIVATE | Modifier.STATIC);
        }
    }

    private static void noPrivateNamesake(TreeSet<String> names) {
        TreeSet<String> bare = new TreeSet<>();
        for (String name : names) {
            bare.add(name.substring(name.indexOf(' ') + 1, name.indexOf('(')));
        }
        for (Class<?> type : ScratchMap.class.getDeclaredClasses()) {
            for (Method method : type.getDeclaredMethods()) {
                Due.is("namesake " + type.getName() + "." + method.getName(), bare.contains(method.getName()), false);
            }
        }
        for (Method method : ScratchMap.class.getDeclaredMethods()) {
            boolean namesake = Modifier.isPrivate(method.getModifiers()) && bare.contains(method.getName());
            Due.is("private namesake " + method.getName(), namesake, false);
        }
    }
}
