import java.io.IOException;
import java.lang.reflect.InvocationTargetException;
import java.lang.reflect.Method;
import java.nio.file.Files;
import java.nio.file.Path;
import java.util.HashSet;
import java.util.Set;
import java.util.regex.Matcher;
import java.util.regex.Pattern;

/** README.md's examples, carried out: each call that is shown answers what is shown behind it. */
public final class ReadmeTest {
    private static final Pattern NEW = Pattern.compile("BoardScript x = new BoardScript\\(\\);");
    private static final Pattern TYPED = Pattern.compile("type\\(x, \"(.*)\"\\);");
    private static final Pattern CALL = Pattern.compile("x\\.(\\w+)\\(([^()]*)\\); +// ([-\\w]+): .+");

    private static final Check check = new Check();
    private static final Set<String> shown = new HashSet<>();

    public static void main(String[] args) throws IOException {
        BoardScript x = null;
        for (String line : Files.readAllLines(Path.of("README.md"))) {
            Matcher typed = TYPED.matcher(line);
            Matcher call = CALL.matcher(line);
            if (NEW.matcher(line).matches()) {
                x = new BoardScript();
            } else if (typed.matches()) {
                type(x, typed.group(1).replace("\\n", "\n"));
            } else if (call.matches()) {
                String got = answer(x, call);
                check.due(line + " (answered " + got + ")", got.equals(call.group(3)), true);
            } else {
                check.due("a call that could not be carried out: " + line, line.startsWith("x."), false);
            }
        }
        allShown();
        check.finish();
    }

    private static void type(BoardScript x, String text) {
        for (char c : text.toCharArray()) {
            check.due("unit(" + (int) c + ")", x.unit(c), true);
        }
    }

    private static String answer(BoardScript x, Matcher call) {
        String[] given = call.group(2).isEmpty() ? new String[0] : call.group(2).split(", ");
        for (Method m : BoardScript.class.getMethods()) {
            if (m.getName().equals(call.group(1)) && m.getParameterCount() == given.length) {
                shown.add(m.getName());
                return invoked(x, m, given);
            }
        }
        return "no such method";
    }

    private static String invoked(BoardScript x, Method m, String[] given) {
        Object[] values = new Object[given.length];
        for (int i = 0; i < given.length; i++) {
            boolean wide = m.getParameterTypes()[i] == long.class;
            values[i] = wide ? (Object) Long.valueOf(given[i]) : (Object) Integer.valueOf(given[i]);
        }
        try {
            Object got = m.invoke(x, values);
            return m.getReturnType() == void.class ? "void" : got.toString();
        } catch (InvocationTargetException e) {
            return e.getCause().getClass().getSimpleName();
        } catch (IllegalAccessException e) {
            return e.toString();
        }
    }

    /** Each method of the face is shown at least once; unit() is in the helper that types. */
    private static void allShown() {
        for (Method m : BoardScript.class.getDeclaredMethods()) {
            if (!m.isSynthetic() && !m.getName().equals("unit")) {
                check.due(m.getName() + " is shown", shown.contains(m.getName()), true);
            }
        }
    }
}
