import java.lang.reflect.Constructor;
import java.lang.reflect.Executable;
import java.lang.reflect.Method;
import java.lang.reflect.Modifier;
import java.util.Arrays;
import java.util.Set;
import java.util.TreeSet;
import java.util.stream.Collectors;

/** What the document says ahead of the Terms and behind the promises, and the line that each promise begins with. */
final class FaceEdges extends Edges {
    /** In the order of the promises. */
    private static final String[] FACE = {
        "BoardScript()",
        "boolean unit(int u)",
        "int read()",
        "int object(int kind)",
        "boolean field(int object, int name, long v) throws IndexOutOfBoundsException",
        "int run(long steps) throws IllegalArgumentException",
        "long at(int object, int name) throws IndexOutOfBoundsException",
        "int query(int k)",
        "int output(int i) throws IndexOutOfBoundsException",
        "int error(int what) throws IndexOutOfBoundsException",
        "int closed(int k)",
        "boolean restored()",
        "int added(int k)",
        "long steps()",
        "boolean failAt(int act)",
        "int list(int length)",
        "int line()",
        "void clear()",
    };

    FaceEdges(Check check, Document document) {
        super(check, document);
    }

    @Override
    void all() {
        section("");
        sentence("# BoardScript", this::name);
        section("What it is");
        sentence("Scripts over a board's objects, read from a text and walked: variables, a list, branches, loops, functions, queries, acts that put the board back when they fail, closing parts that run in any case, errors by their kind, counted steps, outputs, rules that can be asked later.",
            this::oneOfEach);
        sentence("An object is used for at most 512 calls after it has been made;", this::manyCalls);
        free("what later calls answer is free.");
        section("The public face");
        sentence("```java\npublic final class BoardScript {", this::publicAndFinal);
        sentence("public static final int NONE = -1;", () -> check.due("NONE", BoardScript.NONE, -1));
        for (int i = 0; i < FACE.length; i++) {
            String line = FACE[i];
            section("The public face");
            sentence("public " + line + ";", () -> isThere(line));
            section("Promise " + (i + 1));
            sentence("`" + line + "`:", () -> isThere(line));
        }
        section("Not promised");
        free("How the state is held inside the object is free, as are the speed of each call, the text of toString and the behaviour of equals and hashCode.");
        free("Use of one object from several threads at once is not promised to be safe.");
        free("Nothing is promised beyond the answers and state changes described above, and nothing about an object after its 512th call.");
    }

    private void name() {
        check.due("the class's name", BoardScript.class.getName().equals("BoardScript"), true);
        check.due("no package", BoardScript.class.getPackageName().isEmpty(), true);
    }

    private void publicAndFinal() {
        check.due("public, final, no more", BoardScript.class.getModifiers(), Modifier.PUBLIC | Modifier.FINAL);
        check.due("of no other class", BoardScript.class.getSuperclass() == Object.class, true);
        check.due("of no interface", BoardScript.class.getInterfaces().length, 0);
    }

    /** That a line of the face stands in the class, its parameters' names left out. */
    private void isThere(String line) {
        check.due(line + " is there", publicFace().contains(line.replaceAll(" \\w+([,)])", "$1")), true);
        check.due("no line more", publicFace().size(), FACE.length);
    }

    private static Set<String> publicFace() {
        Set<String> all = new TreeSet<>();
        for (Constructor<?> c : BoardScript.class.getConstructors()) {
            all.add(signature("BoardScript", c));
        }
        for (Method m : BoardScript.class.getDeclaredMethods()) {
            if (Modifier.isPublic(m.getModifiers())) {
                all.add(signature(m.getReturnType() + " " + m.getName(), m));
            }
        }
        return all;
    }

    private static String signature(String start, Executable e) {
        String exceptions = names(e.getExceptionTypes());
        return start + "(" + names(e.getParameterTypes()) + ")" + (exceptions.isEmpty() ? "" : " throws " + exceptions);
    }

    private static String names(Class<?>[] types) {
        return Arrays.stream(types).map(Class::getSimpleName).collect(Collectors.joining(", "));
    }

    private void oneOfEach() {
        String text = ":A{!a;}<2;'1=5;a='1;?a=5{A;}{^1;}*a{a=a-1;}\n|@z:0=3;&#=2;~{[@0:1=9;+7;^8;]}{!9;}";
        BoardScript x = Check.script(text);
        x.object(3);
        x.object(4);
        x.object(3);
        check.due("run", x.run(300), 1);
        check.outputs("outputs", x, 5, 9);
        check.due("steps", x.steps(), 25);
        check.due("a query", x.query(0), 0);
        check.due("a query", x.query(1), 2);
        check.due("no more", x.query(2), NONE);
        check.error("an error", x, 4, text.indexOf("^8"), 8, 2);
        check.due("a closing part", x.closed(0), text.indexOf('~'));
        check.due("the board is put back", x.restored(), true);
        check.due("as it was", x.at(0, 1), 0);
        check.due("a rule, asked later", x.added(0), 0);
        check.due("with an object more", x.object(1), 3);
        check.due("it is still none", x.added(0), 0);
        check.due("no rule more", x.added(1), NONE);
    }

    private void manyCalls() {
        BoardScript reads = new BoardScript();
        for (int n = 0; n < 512; n++) {
            check.due("read() number " + n, reads.read(), 0);
        }
        BoardScript runs = new BoardScript();
        String text = "*1{[A;]}:A{[B;]}:B{~{a=a+1;}{b=a;}}";
        check.due("read", Check.read(runs, text), 10);
        for (int n = text.length() + 1; n < 511; n++) {
            check.due("run as call " + n, runs.run(300), 2);
        }
        check.due("steps() as the last call", runs.steps(), 300);
    }
}
