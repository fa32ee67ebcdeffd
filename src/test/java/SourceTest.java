import java.io.IOException;
import java.lang.reflect.Method;
import java.lang.reflect.Modifier;
import java.nio.file.Files;
import java.nio.file.Path;
import java.util.HashSet;
import java.util.List;
import java.util.Set;
import java.util.regex.Matcher;
import java.util.regex.Pattern;

/** The rules of LANGUAGE.md that can be seen in the source's own lines. */
public final class SourceTest {
    private static final Path SOURCE = Path.of("src", "main", "java", "BoardScript.java");
    private static final int LONGEST_METHOD = 60;

    private static final String[] RULED_OUT = {
        "\\btry\\b", "\\bcatch\\b", "\\bfinally\\b", "\\bsynchronized\\b", "\\bassert\\b", "\\bvar\\b", "->", "::",
        "\\w+Exact\\b", "\\bstatic\\s*\\{", "\\bObject\\b", "\\bSystem\\.(?!arraycopy\\b)", "\\bThread\\b", "\\brandom\\b",
        "\\.hashCode\\b", "\\.toString\\b", "\\.getMessage\\b", "\\bpackage\\b", "\\bextends\\b", "\\bimplements\\b",
    };

    private static final Check check = new Check();

    public static void main(String[] args) throws IOException {
        String source = Files.readString(SOURCE);
        String code = withoutTexts(source);
        check.due("plain characters alone", source.chars().allMatch(c -> c == '\n' || c >= ' ' && c <= '~'), true);
        imports(code);
        for (String ruledOut : RULED_OUT) {
            check.due("none of " + ruledOut, Pattern.compile(ruledOut).matcher(code).find(), false);
        }
        exceptions(code);
        methodLengths(code.split("\n"));
        names();
        check.finish();
    }

    /** The code alone: comments, texts and characters are emptied, line feeds stay. */
    private static String withoutTexts(String source) {
        Matcher m = Pattern.compile("/\\*.*?\\*/|//[^\n]*|\"(\\\\.|[^\"\\\\])*\"|'(\\\\.|[^'\\\\])'", Pattern.DOTALL).matcher(source);
        return m.replaceAll(found -> "\n".repeat((int) found.group().chars().filter(c -> c == '\n').count()));
    }

    private static void imports(String code) {
        for (String line : code.split("\n")) {
            if (line.startsWith("import ")) {
                check.due(line, Set.of("import java.util.Arrays;", "import java.util.ArrayList;", "import java.util.List;").contains(line), true);
            }
        }
    }

    /** Only the document's two, thrown by the face's own methods and not made anywhere else. */
    private static void exceptions(String code) {
        Matcher thrown = Pattern.compile("\\bthrow\\b([^;]*);").matcher(code);
        int count = 0;
        while (thrown.find()) {
            count++;
            boolean due = thrown.group(1).matches(" new (IndexOutOfBounds|IllegalArgument)Exception\\(\\)");
            check.due("throw" + thrown.group(1), due, true);
        }
        check.due("one throw for each method that may", count, 5);
        check.due("none in the classes inside", code.substring(code.indexOf(" class Board ")).contains("throw"), false);
    }

    /** A method begins with a line that ends in ") {" or "Exception {" and ends where a line's indent is its own again. */
    private static void methodLengths(String[] lines) {
        Pattern start = Pattern.compile("( {4}| {8})\\w[^=;]*\\([^=;]*(\\)|Exception) \\{");
        int methods = 0;
        for (int i = 0; i < lines.length; i++) {
            Matcher m = start.matcher(lines[i]);
            if (m.matches() && !m.group().trim().matches("(if|for|while|switch)\\b.*")) {
                methods++;
                check.due(lines[i].trim() + " is short", lengthFrom(List.of(lines), i, m.group(1)) <= LONGEST_METHOD, true);
            }
        }
        check.due("methods were found", methods > 60, true);
    }

    private static int lengthFrom(List<String> lines, int first, String indent) {
        int last = first;
        while (last < lines.size() && !lines.get(last).equals(indent + "}")) {
            last++;
        }
        return last - first + 1;
    }

    /** The face's methods are all that the class has itself, and none inside bears the name of one. */
    private static void names() {
        Set<String> face = new HashSet<>();
        for (Method m : BoardScript.class.getDeclaredMethods()) {
            check.due(m.getName() + " is public", Modifier.isPublic(m.getModifiers()), true);
            face.add(m.getName());
        }
        for (Class<?> inside : BoardScript.class.getDeclaredClasses()) {
            for (Method m : inside.getDeclaredMethods()) {
                check.due(inside.getSimpleName() + "." + m.getName() + " has a name of its own", face.contains(m.getName()), false);
            }
        }
    }
}
