import java.util.Random;
import java.util.function.Supplier;

/** All promises: the class against the oracle, on texts and calls by chance (the same ones each time). */
public final class OracleTest {
    private static final Check check = new Check();
    private static final int RUNS = 6000;

    private final Random random;
    private final BoardScript x = new BoardScript();
    private final Oracle oracle = new Oracle();
    private final StringBuilder told = new StringBuilder();
    private StringBuilder text;

    private OracleTest(long seed) {
        random = new Random(seed);
        told.append("seed ").append(seed);
    }

    public static void main(String[] args) {
        for (int seed = 0; seed < RUNS; seed++) {
            new OracleTest(seed).go();
        }
        check.finish();
    }

    private int below(int n) {
        return random.nextInt(n);
    }

    private boolean oneIn(int n) {
        return below(n) == 0;
    }

    /** The answers of both, an exception as its name; the machine's own ones differ from all that is due. */
    private void same(String call, Supplier<Object> mine, Object due) {
        String got;
        try {
            got = String.valueOf(mine.get());
        } catch (RuntimeException e) {
            got = "throws " + e.getClass().getSimpleName();
        }
        if (!got.equals(String.valueOf(due))) {
            System.out.println(told + "\n  " + call + " answered " + got + ", due is " + due);
        }
        check.due(call, got.equals(String.valueOf(due)), true);
    }

    private static Object orBounds(Object answer) {
        return answer == null ? "throws IndexOutOfBoundsException" : answer;
    }

    private static Object orIllegal(Object answer) {
        return answer == null ? "throws IllegalArgumentException" : answer;
    }

    private void go() {
        int rounds = 1 + below(4);
        for (int i = 0; i < rounds; i++) {
            prepare();
            readText();
            if (oneIn(5)) {
                askAll();
            }
            int runs = below(3);
            for (int r = 0; r <= runs; r++) {
                runOnce();
                askAll();
            }
            if (oneIn(12)) {
                x.clear();
                oracle.clear();
                told.append(" clear");
                askAll();
            }
        }
    }

    private void prepare() {
        int news = below(4);
        for (int i = 0; i < news; i++) {
            int kind = below(5) - 1;
            told.append(" object ").append(kind);
            same("object", () -> x.object(kind), oracle.object(kind));
        }
        if (oneIn(2)) {
            int o = below(4) - (oneIn(9) ? 1 : 0);
            int n = below(6) + (oneIn(9) ? 1 : 0);
            long v = oneIn(5) ? random.nextLong() : below(3);
            told.append(" field ").append(o).append(' ').append(n).append(' ').append(v);
            same("field", () -> x.field(o, n, v), orBounds(oracle.field(o, n, v)));
        }
        if (oneIn(2)) {
            int length = below(25) - 2;
            told.append(" list ").append(length);
            same("list", () -> x.list(length), oracle.list(length));
        }
        if (oneIn(2)) {
            int act = below(5) - 2;
            told.append(" failAt ").append(act);
            same("failAt", () -> x.failAt(act), oracle.failAt(act));
        }
    }

    private void readText() {
        text = new StringBuilder();
        script();
        if (oneIn(3)) {
            spoil();
        }
        told.append(" read ").append(text.toString().replace("\n", "\\n"));
        for (int i = 0; i < text.length(); i++) {
            char c = text.charAt(i);
            same("unit", () -> x.unit(c), oracle.unit(c));
        }
        same("read", x::read, oracle.read());
    }

    private void spoil() {
        int times = 1 + below(2);
        String marks = "a1;{}[]()=:@'!?*~^+&|<A#-/%\n 5Z";
        for (int i = 0; i < times && text.length() > 0; i++) {
            int p = below(text.length());
            char mark = marks.charAt(below(marks.length()));
            switch (below(4)) {
                case 0:
                    text.deleteCharAt(p);
                    break;
                case 1:
                    text.insert(p, mark);
                    break;
                case 2:
                    text.setCharAt(p, mark);
                    break;
                default:
                    text.setLength(p);
            }
        }
    }

    private void runOnce() {
        long steps = oneIn(30) ? below(3) * 301 - 1 : oneIn(3) ? 1 + below(20) : 300;
        told.append(" run ").append(steps);
        same("run", () -> x.run(steps), orIllegal(oracle.run(steps)));
    }

    private void askAll() {
        for (int o = -1; o <= 12; o++) {
            for (int n = -1; n <= 6; n++) {
                int object = o;
                int name = n;
                same("at " + o + " " + n, () -> x.at(object, name), orBounds(oracle.at(o, n)));
            }
            int k = o;
            same("query " + k, () -> x.query(k), oracle.query(k));
            same("added " + k, () -> x.added(k), oracle.added(k));
        }
        for (int i = -1; i <= 41; i++) {
            int k = i;
            same("output " + k, () -> x.output(k), orBounds(oracle.output(k)));
            same("closed " + k, () -> x.closed(k), oracle.closed(k));
        }
        for (int i = -1; i <= 3; i++) {
            int what = i;
            same("error " + what, () -> x.error(what), orBounds(oracle.error(what)));
        }
        same("restored", x::restored, oracle.restored());
        same("steps", x::steps, oracle.steps());
        same("line", x::line, oracle.line());
    }

    // Texts by chance, most of them good ones.

    private void script() {
        int deep = oneIn(15) ? 3 : 2;
        int n = below(7);
        for (int i = 0; i < n; i++) {
            feeds();
            if (oneIn(4)) {
                text.append(':').append((char) ('A' + below(4)));
                braces(deep - 1);
            } else {
                statement(deep);
            }
        }
        feeds();
    }

    private void feeds() {
        if (oneIn(6)) {
            text.append('\n');
        }
    }

    private void block(int deep) {
        int n = below(4);
        for (int i = 0; i < n; i++) {
            feeds();
            statement(deep);
        }
        feeds();
    }

    private void braces(int deep) {
        text.append('{');
        block(deep);
        text.append('}');
    }

    private char variable() {
        return "abcz".charAt(below(4));
    }

    private void statement(int deep) {
        int kind = below(deep > 0 ? 18 : 11);
        switch (kind) {
            case 0:
            case 1:
                text.append(variable()).append('=');
                ended(3);
                break;
            case 2:
                text.append('@');
                atom(2);
                text.append(':').append(below(6)).append('=');
                ended(3);
                break;
            case 3:
                text.append('\'');
                atom(2);
                text.append('=');
                ended(3);
                break;
            case 4:
                text.append((char) ('A' + below(5))).append(';');
                break;
            case 5:
                text.append(oneIn(3) ? '^' : '!');
                ended(3);
                break;
            case 6:
                text.append('<');
                ended(1);
                break;
            case 7:
                text.append('|');
                ended(3);
                break;
            case 8:
                text.append('&');
                ended(3);
                break;
            case 9:
                text.append('+');
                ended(3);
                break;
            case 10:
                text.append('!');
                ended(3);
                break;
            default:
                withBlocks(kind, deep - 1);
        }
    }

    private void withBlocks(int kind, int deep) {
        switch (kind) {
            case 11:
            case 12:
                text.append('?');
                expression(3);
                braces(deep);
                if (oneIn(2)) {
                    braces(deep);
                }
                break;
            case 13:
                loop(deep);
                break;
            case 14:
            case 15:
                text.append('[');
                block(deep);
                text.append(']');
                break;
            default:
                text.append('~');
                braces(deep);
                braces(deep);
        }
    }

    private void loop(int deep) {
        char v = variable();
        text.append('*').append(v).append('<').append(below(oneIn(5) ? 60 : 6)).append('{');
        block(deep);
        text.append(v).append('=').append(v).append("+1;}");
    }

    private void ended(int deep) {
        expression(deep);
        text.append(';');
    }

    private void expression(int deep) {
        sum(deep);
        if (oneIn(4)) {
            text.append(oneIn(2) ? '<' : '=');
            sum(deep);
        }
    }

    private void sum(int deep) {
        product(deep);
        for (int i = 0; i < 3 && oneIn(4); i++) {
            text.append(oneIn(2) ? '+' : '-');
            product(deep);
        }
    }

    private void product(int deep) {
        atom(deep);
        for (int i = 0; i < 3 && oneIn(5); i++) {
            text.append("*/%".charAt(below(3)));
            atom(deep);
        }
    }

    private void atom(int deep) {
        int kind = below(deep > 0 ? 12 : 8);
        if (oneIn(200)) {
            kind = 8 + below(4);
        }
        switch (kind) {
            case 8:
                text.append('(');
                expression(deep - 1);
                text.append(')');
                break;
            case 9:
                text.append('-');
                atom(deep - 1);
                break;
            case 10:
                text.append('@');
                atom(deep - 1);
                text.append(':').append(below(6));
                break;
            case 11:
                text.append('\'');
                atom(deep - 1);
                break;
            case 7:
                text.append('#');
                break;
            case 6:
                text.append(below(oneIn(4) ? 10000 : 20));
                break;
            case 3:
            case 4:
            case 5:
                text.append(below(4));
                break;
            default:
                text.append(variable());
        }
    }
}
