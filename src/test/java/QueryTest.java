/** Promises 8 and 13: query(), added(). */
public final class QueryTest {
    private static final Check check = new Check();

    public static void main(String[] args) {
        queries();
        theLatestQuery();
        queriesWithErrors();
        rules();
        rulesAskedNow();
        manyRules();
        check.finish();
    }

    private static BoardScript board(String text, int objects) {
        BoardScript x = Check.script(text);
        for (int i = 0; i < objects; i++) {
            x.object(i * i);
        }
        return x;
    }

    private static void found(String what, BoardScript x, int... objects) {
        for (int k = 0; k < objects.length; k++) {
            check.due(what + " query(" + k + ")", x.query(k), objects[k]);
        }
        int[] none = {objects.length, 12, -1, 32, Integer.MIN_VALUE, Integer.MAX_VALUE};
        for (int k : none) {
            check.due(what + " query(" + k + ")", x.query(k), k < objects.length && k >= 0 ? objects[k] : BoardScript.NONE);
        }
    }

    private static void queries() {
        BoardScript x = board("|10<@z:0;", 6);
        found("no run yet", x);
        check.due("run", x.run(9), 0);
        found("10<@z:0", x, 4, 5);
        check.due("one step", x.steps(), 1);
        BoardScript all = board("|7;", 12);
        all.run(9);
        found("all", all, 0, 1, 2, 3, 4, 5, 6, 7, 8, 9, 10, 11);
        BoardScript none = board("|0;", 12);
        none.run(9);
        found("none", none);
        BoardScript nobody = board("z=5;|1/0;!z;", 0);
        check.due("nobody is asked", nobody.run(9), 0);
        found("nobody", nobody);
        BoardScript z = board("z=5;|z<3;!z;", 4);
        z.run(9);
        check.outputs("z is what it was", z, 5);
        found("z<3", z, 0, 1, 2);
        BoardScript twoBits = board("|z%2=1;", 12);
        twoBits.run(9);
        found("odd ones", twoBits, 1, 3, 5, 7, 9, 11);
    }

    private static void theLatestQuery() {
        BoardScript x = board("|z=1;|z=2;a=1;", 4);
        x.run(9);
        found("the latest", x, 2);
        x.run(1);
        found("of the latest run", x, 1);
        check.due("a bad read", Check.read(x, "!"), -2);
        found("behind a bad read", x, 1);
        Check.read(x, "a=1;");
        found("behind a good read", x);
        x.run(9);
        found("a run without one", x);
        BoardScript act = board("[+1;|1;^1;]", 1);
        act.run(9);
        found("an act leaves it", act, 0, 1);
        check.outOfBounds("the object is gone", () -> act.at(1, 0));
        act.clear();
        found("cleared", act);
    }

    private static void queriesWithErrors() {
        BoardScript x = board("z=7;|z=1;~{|6/(2-z);}{!z;}", 4);
        check.due("run", x.run(99), 1);
        check.error("in a query", x, 1, 11, 0, 1);
        check.outputs("z is as it is by then", x, 2);
        found("the latest before", x, 1);
        BoardScript first = board("z=7;|@9:0;", 2);
        first.run(9);
        found("no query before", first);
        BoardScript rule = board("&z;z=7;|1/z;", 2);
        rule.run(9);
        check.due("z is 0 by then", rule.added(0), 0);
    }

    private static void rules() {
        BoardScript x = Check.script("&5;&0;&1/0;&-1;&'0;&@0:0;a=1;&a;");
        check.due("no run yet", x.added(0), BoardScript.NONE);
        check.due("a rule is not asked in the run", x.run(99), 0);
        int[] due = {1, 0, -2, 1, -2, -2, 1, BoardScript.NONE};
        for (int k = 0; k < due.length; k++) {
            check.due("added(" + k + ")", x.added(k), due[k]);
        }
        check.due("added(-1)", x.added(-1), BoardScript.NONE);
        check.due("added(MIN)", x.added(Integer.MIN_VALUE), BoardScript.NONE);
        check.due("added(MAX)", x.added(Integer.MAX_VALUE), BoardScript.NONE);
        check.error("asking makes no error of the run", x, 0, BoardScript.NONE, 0, 0);
        check.due("steps()", x.steps(), 8);
        check.due("a bad read", Check.read(x, "&"), -2);
        check.due("behind a bad read", x.added(0), 1);
        Check.read(x, "&0;");
        check.due("behind a good read", x.added(0), BoardScript.NONE);
        x.run(1);
        check.due("of the latest run", x.added(0), 0);
        check.due("of the latest run", x.added(1), BoardScript.NONE);
    }

    private static void rulesAskedNow() {
        BoardScript x = Check.script("a=1;&a=2;&#=2;&@0:3;&'1;a=2;");
        x.run(99);
        check.due("variables as the run left them", x.added(0), 1);
        check.due("objects now", x.added(1), 0);
        check.due("fields now", x.added(2), -2);
        check.due("the list now", x.added(3), -2);
        x.object(1);
        x.object(1);
        x.list(2);
        check.due("objects now", x.added(1), 1);
        check.due("fields now", x.added(2), 0);
        check.due("the list now", x.added(3), 0);
        x.field(0, 3, 1L << 40);
        check.due("a high bit is not 0", x.added(2), 1);
        x.run(1);
        check.due("no rule in so few steps", x.added(0), BoardScript.NONE);
        x.run(2);
        check.due("a is 1 by then", x.added(0), 0);
        x.clear();
        check.due("cleared", x.added(0), BoardScript.NONE);
        BoardScript failed = Check.ran("&a;a=3;[&b;^1;]");
        check.due("rules stay behind an error", failed.added(0), 1);
        check.due("rules stay behind an act", failed.added(1), 0);
    }

    private static void manyRules() {
        BoardScript x = Check.ran("*a<7{&a=7;a=a+1;}&0;&1;");
        for (int k = 0; k < 7; k++) {
            check.due("added(" + k + ")", x.added(k), 1);
        }
        check.due("the eighth", x.added(7), 0);
        check.due("the ninth", x.added(8), BoardScript.NONE);
    }
}
