import java.util.ArrayList;
import java.util.List;

/**
 * The document a second time, written quite otherwise (closures, exceptions, lists), so that the
 * class can be held against it on texts and calls by chance.
 */
final class Oracle {
    private interface Reckoning {
        long now();
    }

    private interface Doing {
        void go();
    }

    private static final class Bad extends RuntimeException {
        private static final long serialVersionUID = 1L;
        final int place;

        Bad(int place) {
            this.place = place;
        }
    }

    private static final class Err extends RuntimeException {
        private static final long serialVersionUID = 1L;
        final int kind;
        final long value;
        int place = -1;

        Err(int kind, long value) {
            this.kind = kind;
            this.value = value;
        }
    }

    private static final class Spent extends RuntimeException {
        private static final long serialVersionUID = 1L;
    }

    private String text = "";
    private String scriptText = "";
    private Doing script = () -> { };
    private Doing[] functions = new Doing[26];
    private List<long[]> objects = new ArrayList<>();
    private List<Long> list = new ArrayList<>();
    private int failing = -1;

    private long[] variables = new long[26];
    private List<Integer> outputs = new ArrayList<>();
    private List<Reckoning> rules = new ArrayList<>();
    private List<Integer> found = new ArrayList<>();
    private List<Integer> closings = new ArrayList<>();
    private boolean putBack;
    private long taken;
    private long limit;
    private int acts;
    private int calls;
    private Err error;

    // The reading.
    private int pos;
    private int statements;
    private boolean[] told;
    private Doing[] newFunctions;

    boolean unit(int u) {
        if (u != 10 && (u < 32 || u > 126) || text.length() == 400) {
            return false;
        }
        text += (char) u;
        return true;
    }

    int read() {
        String source = text;
        pos = 0;
        statements = 0;
        told = new boolean[26];
        newFunctions = new Doing[26];
        Doing body;
        try {
            body = sequence(0);
            if (pos < text.length()) {
                throw new Bad(pos);
            }
        } catch (Bad bad) {
            text = "";
            return -1 - bad.place;
        }
        text = "";
        scriptText = source;
        script = body;
        functions = newFunctions;
        forget();
        return statements;
    }

    private void forget() {
        outputs = new ArrayList<>();
        rules = new ArrayList<>();
        found = new ArrayList<>();
        closings = new ArrayList<>();
        putBack = false;
        taken = 0;
        error = null;
        acts = 0;
        calls = 0;
    }

    private int look() {
        return pos < text.length() ? text.charAt(pos) : -1;
    }

    private void must(String oneOf) {
        if (look() < 0 || oneOf.indexOf(look()) < 0) {
            throw new Bad(pos);
        }
        pos++;
    }

    private Doing sequence(int depth) {
        List<Doing> all = new ArrayList<>();
        while (true) {
            while (look() == 10) {
                pos++;
            }
            if (look() < 0 || look() == '}' || look() == ']') {
                return () -> all.forEach(Doing::go);
            }
            all.add(statement(depth));
        }
    }

    private Doing braces(int depth) {
        if (look() == '{' && depth == 2) {
            throw new Bad(pos);
        }
        must("{");
        Doing b = sequence(depth + 1);
        must("}");
        return b;
    }

    private void step() {
        if (taken == limit) {
            throw new Spent();
        }
        taken++;
    }

    /** A STATEMENT's doing with its STEP ahead of it and its place on every ERROR that has none yet. */
    private Doing counted(int place, Doing inner) {
        return () -> {
            step();
            try {
                inner.go();
            } catch (Err e) {
                if (e.place < 0) {
                    e.place = place;
                }
                throw e;
            }
        };
    }

    private Doing statement(int depth) {
        int place = pos;
        int c = look();
        boolean variable = c >= 'a' && c <= 'z';
        boolean call = c >= 'A' && c <= 'Z';
        if (!variable && !call && "@'!?*[~^+&|<:".indexOf(c) < 0 || statements == 100) {
            throw new Bad(place);
        }
        statements++;
        pos++;
        if (c == ':') {
            return function(place, depth);
        }
        return counted(place, variable ? assignment(c - 'a') : call ? call(c - 'A') : other(c, place, depth));
    }

    private Doing function(int place, int depth) {
        int letter = look() - 'A';
        if (letter < 0 || letter > 25) {
            throw new Bad(pos);
        }
        if (depth > 0 || told[letter]) {
            throw new Bad(place);
        }
        told[letter] = true;
        pos++;
        newFunctions[letter] = braces(depth);
        return () -> { };
    }

    private Doing assignment(int letter) {
        must("=");
        Reckoning e = closedExpression();
        return () -> variables[letter] = e.now();
    }

    private Doing call(int letter) {
        must(";");
        return () -> {
            if (functions[letter] == null) {
                throw new Err(6, 0);
            }
            if (calls == 2) {
                throw new Err(5, 0);
            }
            calls++;
            try {
                functions[letter].go();
            } finally {
                calls--;
            }
        };
    }

    private Reckoning closedExpression() {
        Reckoning e = expression(0);
        must(";");
        return e;
    }

    private Doing other(int c, int place, int depth) {
        switch (c) {
            case '@': {
                Reckoning object = atom(0);
                must(":");
                must("012345");
                int name = text.charAt(pos - 1) - '0';
                must("=");
                Reckoning e = closedExpression();
                return () -> {
                    long[] o = objectAt(object.now());
                    o[name] = e.now();
                };
            }
            case '\'': {
                Reckoning where = atom(0);
                must("=");
                Reckoning e = closedExpression();
                return () -> {
                    int p = placeAt(where.now());
                    list.set(p, e.now());
                };
            }
            case '!': {
                Reckoning e = closedExpression();
                return () -> outputs.add((int) e.now());
            }
            case '^': {
                Reckoning e = closedExpression();
                return () -> {
                    throw new Err(4, e.now());
                };
            }
            case '+': {
                Reckoning e = closedExpression();
                return () -> {
                    long kind = e.now();
                    if (object(kind) < 0) {
                        throw new Err(3, 0);
                    }
                };
            }
            case '<': {
                Reckoning e = closedExpression();
                return () -> {
                    if (list(e.now()) != 0) {
                        throw new Err(3, 0);
                    }
                };
            }
            case '&': {
                Reckoning e = closedExpression();
                return () -> rules.add(e);
            }
            case '|':
                return queryOf(closedExpression());
            default:
                return withBlocks(c, place, depth);
        }
    }

    private Doing queryOf(Reckoning e) {
        return () -> {
            long z = variables[25];
            List<Integer> these = new ArrayList<>();
            for (int i = 0; i < objects.size(); i++) {
                variables[25] = i;
                if (e.now() != 0) {
                    these.add(i);
                }
            }
            variables[25] = z;
            found = these;
        };
    }

    private Doing withBlocks(int c, int place, int depth) {
        if (c == '[') {
            if (depth == 2) {
                throw new Bad(place);
            }
            Doing b = sequence(depth + 1);
            must("]");
            return act(b);
        }
        if (c == '~') {
            Doing first = braces(depth);
            Doing second = braces(depth);
            return closing(place, first, second);
        }
        Reckoning e = expression(0);
        Doing first = braces(depth);
        if (c == '*') {
            return () -> {
                while (e.now() != 0) {
                    first.go();
                    step();
                }
            };
        }
        Doing second = look() == '{' ? braces(depth) : () -> { };
        return () -> (e.now() != 0 ? first : second).go();
    }

    private Doing act(Doing b) {
        return () -> {
            int number = acts++;
            List<long[]> before = new ArrayList<>();
            for (long[] o : objects) {
                before.add(o.clone());
            }
            try {
                b.go();
                if (number == failing) {
                    throw new Err(7, 0);
                }
            } catch (Err e) {
                objects = before;
                putBack = true;
                throw e;
            }
        };
    }

    private Doing closing(int place, Doing first, Doing second) {
        return () -> {
            Err kept = null;
            try {
                first.go();
            } catch (Err e) {
                kept = e;
            }
            closings.add(place);
            second.go();
            if (kept != null) {
                throw kept;
            }
        };
    }

    private long[] objectAt(long n) {
        if (n < 0 || n >= objects.size()) {
            throw new Err(2, 0);
        }
        return objects.get((int) n);
    }

    private int placeAt(long n) {
        if (n < 0 || n >= list.size()) {
            throw new Err(2, 0);
        }
        return (int) n;
    }

    private Reckoning expression(int deep) {
        Reckoning left = sum(deep);
        if (look() != '<' && look() != '=') {
            return left;
        }
        boolean less = look() == '<';
        pos++;
        Reckoning right = sum(deep);
        return () -> {
            long l = left.now();
            long r = right.now();
            return (less ? l < r : l == r) ? 1 : 0;
        };
    }

    private Reckoning sum(int deep) {
        Reckoning all = product(deep);
        while (look() == '+' || look() == '-') {
            Reckoning left = all;
            boolean plus = look() == '+';
            pos++;
            Reckoning right = product(deep);
            all = () -> {
                long l = left.now();
                long r = right.now();
                return plus ? l + r : l - r;
            };
        }
        return all;
    }

    private Reckoning product(int deep) {
        Reckoning all = atom(deep);
        while (look() == '*' || look() == '/' || look() == '%') {
            Reckoning left = all;
            int joint = look();
            pos++;
            Reckoning right = atom(deep);
            all = () -> {
                long l = left.now();
                long r = right.now();
                if (joint == '*') {
                    return l * r;
                }
                if (r == 0) {
                    throw new Err(1, 0);
                }
                return joint == '/' ? l / r : l % r;
            };
        }
        return all;
    }

    private Reckoning atom(int deep) {
        int c = look();
        if (c >= '0' && c <= '9') {
            int from = pos;
            while (pos < from + 4 && look() >= '0' && look() <= '9') {
                pos++;
            }
            long number = Long.parseLong(text.substring(from, pos));
            return () -> number;
        }
        if (c >= 'a' && c <= 'z') {
            pos++;
            return () -> variables[c - 'a'];
        }
        if (c == '#') {
            pos++;
            return () -> objects.size();
        }
        if (c < 0 || "(-@'".indexOf(c) < 0 || deep == 3) {
            throw new Bad(pos);
        }
        pos++;
        if (c == '(') {
            Reckoning e = expression(deep + 1);
            must(")");
            return e;
        }
        Reckoning a = atom(deep + 1);
        if (c == '-') {
            return () -> -a.now();
        }
        if (c == '\'') {
            return () -> list.get(placeAt(a.now()));
        }
        must(":");
        must("012345");
        int name = text.charAt(pos - 1) - '0';
        return () -> objectAt(a.now())[name];
    }

    // The rest of the face; null stands for an exception.

    int object(long kind) {
        if (objects.size() == 12) {
            return -1;
        }
        objects.add(new long[] {kind, 0, 0, 0, 0, 0});
        return objects.size() - 1;
    }

    Boolean field(int object, int name, long v) {
        if (object < 0 || object >= objects.size() || name < 0 || name > 5) {
            return null;
        }
        long old = objects.get(object)[name];
        objects.get(object)[name] = v;
        return old != v;
    }

    Long at(int object, int name) {
        if (object < 0 || object >= objects.size() || name < 0 || name > 5) {
            return null;
        }
        return objects.get(object)[name];
    }

    Integer run(long steps) {
        if (steps < 1 || steps > 300) {
            return null;
        }
        forget();
        variables = new long[26];
        limit = steps;
        try {
            script.go();
            return 0;
        } catch (Err e) {
            error = e;
            return 1;
        } catch (Spent e) {
            return 2;
        }
    }

    int query(int k) {
        return k >= 0 && k < found.size() ? found.get(k) : -1;
    }

    Integer output(int i) {
        return i >= 0 && i < Math.min(40, outputs.size()) ? outputs.get(i) : null;
    }

    Integer error(int what) {
        switch (what) {
            case 0:
                return error == null ? 0 : error.kind;
            case 1:
                return error == null ? -1 : error.place;
            case 2:
                return error == null ? 0 : (int) error.value;
            default:
                return null;
        }
    }

    int closed(int k) {
        return k >= 0 && k < Math.min(20, closings.size()) ? closings.get(k) : -1;
    }

    boolean restored() {
        return putBack;
    }

    int added(int k) {
        if (k < 0 || k >= Math.min(8, rules.size())) {
            return -1;
        }
        try {
            return rules.get(k).now() != 0 ? 1 : 0;
        } catch (Err e) {
            return -2;
        }
    }

    long steps() {
        return taken;
    }

    boolean failAt(int act) {
        int before = failing;
        failing = Math.max(act, -1);
        return failing != before;
    }

    int list(long length) {
        if (length < 0 || length > 20) {
            return 3;
        }
        list = new ArrayList<>();
        for (int i = 0; i < length; i++) {
            list.add(0L);
        }
        return 0;
    }

    int line() {
        return error == null ? 0 : scriptText.substring(0, error.place).split("\n", -1).length;
    }

    void clear() {
        text = "";
        scriptText = "";
        script = () -> { };
        functions = new Doing[26];
        objects = new ArrayList<>();
        list = new ArrayList<>();
        failing = -1;
        forget();
    }
}
