import java.lang.reflect.Constructor;
import java.lang.reflect.Field;
import java.lang.reflect.Method;
import java.lang.reflect.Modifier;
import java.util.Arrays;
import java.util.TreeSet;

/** The public face, and nothing beside it. */
public final class FaceTest {
    private static final String[] METHODS = {"int write(int, int)", "int fill(int, int, int)", "int drop(int)", "int fail(int, int)",
        "int heal(int, int)", "int tidy(int)", "int set(int, int)", "int append(int)", "int clearBuffer()", "int firstError()",
        "int read()", "int undo()", "int cell(int, int, int)", "int block(int, int)", "int line(int, int)", "int count(int)",
        "int setting(int)", "int ifFailed(int, int, int)", "int worst()", "int untidy()", "int find(int)", "double goodShare()",
        "long digest()"};

    private FaceTest() {
    }

    public static void main(String[] args) {
        Due.is("NONE", ScratchMap.NONE, -1);
        Due.is("the class", ScratchMap.class.getModifiers(), Modifier.PUBLIC | Modifier.FINAL);
        TreeSet<String> names = new TreeSet<>();
        for (Method method : ScratchMap.class.getDeclaredMethods()) {
            if (!Modifier.isPrivate(method.getModifiers()) && !method.isSynthetic()) {
                String arguments = Arrays.toString(method.getParameterTypes());
                names.add(method.getReturnType() + " " + method.getName() + "(" + arguments.substring(1, arguments.length() - 1) + ")");
                Due.is("public " + method.getName(), method.getModifiers(), Modifier.PUBLIC);
            }
        }
        Due.is("the methods", names, new TreeSet<>(Arrays.asList(METHODS)));
        noOtherMembers();
        noPrivateNamesake(names);
        Due.end();
    }

    private static void noOtherMembers() {
        for (Field field : ScratchMap.class.getDeclaredFields()) {
            Due.is("field " + field.getName() + " is private", Modifier.isPrivate(field.getModifiers()), !field.getName().equals("NONE"));
        }
        Constructor<?>[] constructors = ScratchMap.class.getDeclaredConstructors();
        Due.is("constructors", constructors.length, 1);
        Due.is("the constructor", constructors[0].getModifiers() + " " + constructors[0].getParameterCount(), Modifier.PUBLIC + " 0");
        for (Class<?> inner : ScratchMap.class.getDeclaredClasses()) {
            Due.is("class " + inner.getName() + " is private and static", inner.getModifiers() & (Modifier.PRIVATE | Modifier.STATIC), Modifier.PRIVATE | Modifier.STATIC);
        }
    }

    private static void noPrivateNamesake(TreeSet<String> names) {
        TreeSet<String> bare = new TreeSet<>();
        for (String name : names) {
            bare.add(name.substring(name.indexOf(' ') + 1, name.indexOf('(')));
        }
        for (Class<?> type : ScratchMap.class.getDeclaredClasses()) {
            for (Method method : type.getDeclaredMethods()) {
                Due.is("namesake " + type.getName() + "." + method.getName(), bare.contains(method.getName()), false);
            }
        }
        for (Method method : ScratchMap.class.getDeclaredMethods()) {
            boolean namesake = Modifier.isPrivate(method.getModifiers()) && bare.contains(method.getName());
            Due.is("private namesake " + method.getName(), namesake, false);
        }
    }
}
