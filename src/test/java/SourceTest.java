import java.io.IOException;
import java.nio.file.Files;
import java.nio.file.Path;
import java.util.List;
import java.util.regex.Pattern;

/** Words that ../shared/LANGUAGE.md keeps out of the program; .ci/run gives the program's path. */
public final class SourceTest {
    private static final String[] FORBIDDEN = {"\\bimport\\b", "\\bpackage\\b", "\\bcatch\\b", "\\bfinally\\b", "\\bsynchronized\\b",
        "\\bassert\\b", "->", "::", "\\bstatic \\{", "\\bequals\\b", "\\bhashCode\\b", "\\btoString\\b", "Exact\\(", "\\bDouble\\.",
        "\\bSystem\\.(?!arraycopy)", "\\bThread\\b", "\\bRuntime\\b", "\\bObject\\b", "\\binstanceof\\b", "\\bprotected\\b"};
    private static final Pattern NEW = Pattern.compile("\\bnew ");
    /** Objects are made when a ScratchMap is, and to be thrown: so a run of calls takes no more room. */
    private static final Pattern NEW_ALLOWED = Pattern.compile(
        "throw new (IndexOutOfBounds|IllegalArgument|IllegalState)Exception\\(\"[^\"]*\"\\);"
        + "|private final \\w+(\\[\\])? \\w+ = new |^ *(saved|lines)\\[i\\] = new (State|Line)\\(\\);");

    private SourceTest() {
    }

    public static void main(String[] args) throws IOException {
        String path = args.length > 0 ? args[0] : "src/main/java/ScratchMap.java";
        List<String> lines = Files.readAllLines(Path.of(path));
        int number = 0;
        for (String line : lines) {
            number++;
            String code = line.replaceAll("/\\*\\*.*", "").replaceAll("^ *\\*.*", "").replaceAll("//.*", "");
            for (String word : FORBIDDEN) {
                Due.is("line " + number + " has " + word, Pattern.compile(word).matcher(code).find(), false);
            }
            boolean makes = NEW.matcher(code).find();
            Due.is("line " + number + " makes an object in a call", makes && !NEW_ALLOWED.matcher(code).find(), false);
        }
        Due.is("lines read", number > 100, true);
        Due.end();
    }
}
