/** Promises 11, 12 and 15: closed(), restored(), failAt(). */
public final class ActTest {
    private static final Check check = new Check();

    public static void main(String[] args) {
        actsPutBack();
        actsWithinActs();
        actsInFunctions();
        failing();
        closings();
        manyClosings();
        closingsAndActs();
        stepsSpent();
        check.finish();
    }

    private static BoardScript board(String text) {
        BoardScript x = Check.script(text);
        x.object(1);
        x.object(2);
        x.list(2);
        return x;
    }

    private static void actsPutBack() {
        BoardScript x = board("[@0:0=5;@1:5=6;+3;'1=4;a=9;!a;^7;]!0;");
        check.due("run", x.run(99), 1);
        check.due("restored()", x.restored(), true);
        check.due("at(0, 0)", x.at(0, 0), 1);
        check.due("at(1, 5)", x.at(1, 5), 0);
        check.outOfBounds("the new one is gone", () -> x.at(2, 0));
        check.outputs("outputs stay", x, 9);
        check.error("it goes on outwards", x, 4, 30, 7, 1);
        Check.read(x, "!'1;");
        check.due("restored() without a run", x.restored(), false);
        x.run(9);
        check.outputs("the list is not put back", x, 4);
        BoardScript good = board("[@0:0=5;+3;]@1:0=6;^1;");
        check.due("a good act", good.run(99), 1);
        check.due("a good act", good.restored(), false);
        check.due("a good act", good.at(0, 0), 5);
        check.due("a good act", good.at(2, 0), 3);
        check.due("nothing is put back outside of acts", good.at(1, 0), 6);
        check.due("nothing changed, put back all the same", Check.ran("[^1;]").restored(), true);
        check.due("variables stay", rulesValue("a=1;[a=2;^1;]", "&a=2;"), 1);
    }

    private static int rulesValue(String text, String rule) {
        BoardScript x = Check.ran(rule + text);
        return x.added(0);
    }

    private static void actsWithinActs() {
        BoardScript x = board("[@0:0=5;[@0:0=6;^1;]]");
        x.run(99);
        check.due("both put back", x.at(0, 0), 1);
        BoardScript y = board("@0:0=4;[@0:0=5;[@0:0=6;+9;]!@0:0;!#;^1;]");
        y.run(99);
        check.outputs("a good one within", y, 6, 3);
        check.due("the outer one puts back to its own beginning", y.at(0, 0), 4);
        check.outOfBounds("also how many", () -> y.at(2, 0));
    }

    private static void actsInFunctions() {
        BoardScript x = board("[[@0:0=2;A;]]:A{@0:0=3;[@0:0=4;B;]}:B{@0:0=5;[@0:0=6;^@0:0;]}");
        x.run(99);
        check.error("four acts", x, 4, 53, 6, 1);
        check.due("four acts", x.at(0, 0), 1);
        BoardScript y = board("~{[@0:0=8;A;]}{!@0:0;}:A{@0:0=9;~{C;}{!@0:0;}}:C{[@0:0=7;^1;]}");
        y.run(99);
        check.outputs("each to its own beginning", y, 9, 1);
        String[] holders = {"?1{%}", "?0{}{%}", "*a<2{a=a+1;%}", "~{%}{}", "~{}{%}"};
        for (String holder : holders) {
            BoardScript held = board("[@0:0=2;A;]:A{@0:0=3;" + holder.replace("%", "@0:0=4;B;")
                + "}:B{" + holder.replace("%", "@0:0=6;^@0:0;") + "}");
            held.run(99);
            check.due(holder + " in functions", held.at(0, 0), 1);
            BoardScript outer = board(holder.replace("%", "[@0:0=5;^1;]") + ":A{}");
            outer.run(99);
            check.due(holder + " round an act", outer.at(0, 0), 1);
            BoardScript both = board("[@0:0=7;" + holder.replace("%", "B;") + "]:B{[@0:0=8;][@0:0=9;^1;]}");
            both.run(99);
            check.due(holder + " within an act, round another", both.at(0, 0), 1);
        }
    }

    private static void failing() {
        BoardScript x = board("[@0:1=1;][@0:2=2;[@0:3=3;]@0:4=4;][]");
        check.due("failAt(-1) at first", x.failAt(-1), false);
        check.due("failAt(-9)", x.failAt(-9), false);
        check.due("failAt(2)", x.failAt(2), true);
        check.due("failAt(2) again", x.failAt(2), false);
        check.due("run", x.run(99), 1);
        check.error("the third one begun", x, 7, 17, 0, 1);
        check.due("the first stays", x.at(0, 1), 1);
        check.due("the outer one puts back too", x.at(0, 2), 0);
        check.due("the inner one puts back", x.at(0, 3), 0);
        check.due("restored()", x.restored(), true);
        check.due("failAt(1)", x.failAt(1), true);
        check.due("run", x.run(99), 1);
        check.error("the second one begun", x, 7, 9, 0, 1);
        check.due("failAt(4)", x.failAt(4), true);
        check.due("there is no fifth one", x.run(99), 0);
        check.due("restored()", x.restored(), false);
        check.due("at(0, 4)", x.at(0, 4), 4);
        check.due("failAt(3)", x.failAt(3), true);
        check.due("run", x.run(99), 1);
        check.error("the fourth one begun", x, 7, 34, 0, 1);
        check.due("failAt(MIN)", x.failAt(Integer.MIN_VALUE), true);
        check.due("none", x.run(99), 0);
        check.due("failAt(-1)", x.failAt(-1), false);
        check.due("failAt(MAX)", x.failAt(Integer.MAX_VALUE), true);
        check.due("none so far", x.run(99), 0);
        BoardScript y = Check.script("[^5;]");
        y.failAt(0);
        y.run(9);
        check.error("one with an error of its own", y, 4, 1, 5, 1);
        Check.read(y, "*a<5{[a=a+1;]}");
        y.failAt(3);
        y.run(99);
        check.due("it stays behind read()", y.error(0), 7);
        check.due("begun each time", y.steps(), 12);
        y.run(99);
        check.due("counted anew in each run", y.steps(), 12);
    }

    private static void closings() {
        BoardScript x = Check.script("~{!1;}{!2;}!3;");
        check.due("run", x.run(99), 0);
        check.outputs("without an error", x, 1, 2, 3);
        check.due("closed(0)", x.closed(0), 0);
        check.due("closed(1)", x.closed(1), BoardScript.NONE);
        check.due("closed(-1)", x.closed(-1), BoardScript.NONE);
        check.due("closed(MIN)", x.closed(Integer.MIN_VALUE), BoardScript.NONE);
        check.due("closed(MAX)", x.closed(Integer.MAX_VALUE), BoardScript.NONE);
        BoardScript y = Check.ran("!0;~{^7;!1;}{!2;}!3;");
        check.outputs("with an error", y, 0, 2);
        check.error("it goes on outwards", y, 4, 5, 7, 1);
        check.due("closed(0)", y.closed(0), 3);
        BoardScript z = Check.ran("~{^7;}{!2;^8;!3;}");
        check.outputs("one in its place", z, 2);
        check.error("one in its place", z, 4, 10, 8, 1);
        BoardScript only = Check.ran("~{}{a=1/0;}");
        check.error("an error of the closing one alone", only, 1, 4, 0, 1);
        BoardScript nested = Check.ran("~{~{^1;}{!1;}!9;}{~{!2;}{!3;}}");
        check.outputs("within one another", nested, 1, 2, 3);
        check.error("the first error still", nested, 4, 4, 1, 1);
        check.due("closed(0)", nested.closed(0), 2);
        check.due("closed(1)", nested.closed(1), 0);
        check.due("closed(2)", nested.closed(2), 18);
        BoardScript inClosing = Check.ran("~{^1;}{~{^2;}{!5;}}");
        check.outputs("an error within the closing one", inClosing, 5);
        check.error("an error within the closing one", inClosing, 4, 9, 2, 1);
        nested.read();
        check.due("gone with a new script", nested.closed(0), BoardScript.NONE);
    }

    private static void manyClosings() {
        BoardScript y = Check.ran("*a<30{~{a=a+1;}{b=b+1;}}!b;");
        check.outputs("all of them run", y, 30);
        check.due("closed(19)", y.closed(19), 6);
        check.due("closed(20)", y.closed(20), BoardScript.NONE);
    }

    private static void closingsAndActs() {
        BoardScript x = board("[~{@0:0=5;^1;}{!@0:0;@0:1=6;}]");
        x.run(99);
        check.outputs("closing within an act", x, 5);
        check.due("put back behind it", x.at(0, 1), 0);
        BoardScript y = board("~{[@0:0=5;^1;]}{!@0:0;@0:1=6;}");
        y.run(99);
        check.outputs("an act within a closing", y, 1);
        check.due("nothing put back behind it", y.at(0, 1), 6);
        BoardScript z = board("[~{@0:0=5;}{@0:1=6;^2;}]");
        z.run(99);
        check.due("put back for the closing one's", z.at(0, 0), 1);
        BoardScript f = board("~{[@0:0=5;]}{!@0:0;[@0:0=6;]}");
        f.failAt(1);
        f.run(99);
        check.error("an act in the closing one", f, 7, 19, 0, 1);
        check.due("an act in the closing one", f.at(0, 0), 5);
    }

    private static void stepsSpent() {
        BoardScript x = board("[@0:0=5;~{@0:1=6;@0:2=7;}{!1;}]");
        check.due("run(4)", x.run(4), 2);
        check.due("nothing is put back", x.at(0, 0), 5);
        check.due("nothing is put back", x.at(0, 1), 6);
        check.due("restored()", x.restored(), false);
        check.due("no closing runs", x.closed(0), BoardScript.NONE);
        check.outputs("no closing runs", x);
        check.due("run(5)", x.run(5), 2);
        check.due("the closing one began", x.closed(0), 8);
        check.outputs("the closing one began", x);
        check.due("run(6)", x.run(6), 0);
        BoardScript y = board("[@0:0=5;^1;]");
        check.due("put back without a step", y.run(3), 1);
        check.due("put back without a step", y.at(0, 0), 1);
        BoardScript z = board("[@0:0=5;]");
        z.failAt(0);
        check.due("failing without a step", z.run(2), 1);
        check.due("failing without a step", z.at(0, 0), 1);
        check.due("not at its end", z.run(1), 2);
    }
}
