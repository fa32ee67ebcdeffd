/** Promises 6, 9, 10, 14 and 17: run(), output(), error(), steps(), line(). */
public final class RunTest {
    private static final Check check = new Check();

    public static void main(String[] args) {
        wrongSteps();
        reckoning();
        wrapping();
        statements();
        outputs();
        errorsByKind();
        errorOrder();
        functions();
        stepsTaken();
        stepsSpent();
        lines();
        check.finish();
    }

    private static void wrongSteps() {
        BoardScript x = Check.script("!7;^3;");
        check.illegal("run(0)", () -> x.run(0));
        check.due("no run yet", x.steps(), 0);
        x.run(300);
        long[] wrong = {0, -1, 301, Long.MIN_VALUE, Long.MAX_VALUE, (1L << 32) + 5, -(1L << 32) + 5};
        for (long steps : wrong) {
            check.illegal("run(" + steps + ")", () -> x.run(steps));
        }
        check.outputs("the latest run stays", x, 7);
        check.error("the latest run stays", x, 4, 3, 3, 1);
        check.due("the latest run stays", x.steps(), 2);
        check.due("run(1)", x.run(1), 2);
        check.due("run(2)", x.run(2), 1);
    }

    private static void reckoning() {
        check.due("0", Check.value("0"), 0);
        check.due("9999", Check.value("9999"), 9999);
        check.due("0007", Check.value("0007"), 7);
        check.due("2+3*4", Check.value("2+3*4"), 14);
        check.due("(2+3)*4", Check.value("(2+3)*4"), 20);
        check.due("20-5-3", Check.value("20-5-3"), 12);
        check.due("100/5/2", Check.value("100/5/2"), 10);
        check.due("7/2*2", Check.value("7/2*2"), 6);
        check.due("2*7/4", Check.value("2*7/4"), 3);
        check.due("17%10%4", Check.value("17%10%4"), 3);
        check.due("-7/2", Check.value("-7/2"), -3);
        check.due("7/-2", Check.value("7/-2"), -3);
        check.due("-7%2", Check.value("-7%2"), -1);
        check.due("7%-2", Check.value("7%-2"), 1);
        check.due("1--2", Check.value("1--2"), 3);
        check.due("---2", Check.value("---2"), -2);
        check.due("-2*-3", Check.value("-2*-3"), 6);
        check.due("1<2", Check.value("1<2"), 1);
        check.due("2<2", Check.value("2<2"), 0);
        check.due("-1<0", Check.value("-1<0"), 1);
        check.due("2=2", Check.value("2=2"), 1);
        check.due("2=3", Check.value("2=3"), 0);
        check.due("1+1=4-2", Check.value("1+1=4-2"), 1);
        check.due("(1<2)+(3=3)", Check.value("(1<2)+(3=3)"), 2);
        check.due("1+(2*(3+(4<5)))", Check.value("1+(2*(3+(4<5)))"), 9);
        allWaiting("1=1+2*(1=1+2*(1=1+2*(1=1+2*3)))", 1);
        allWaiting("1=1+2*(5=5+2*(3=3+4*(9=1+8*1)))", 0);
        allWaiting("7=5+2*(5=4+1*(7=3+4*(9=1+8*1)))", 1);
        allWaiting("7=5+2*(5=4+1*(7=3+4*(9=1+8*2)))", 0);
        check.due("1<2+3*(1<2+3*(1<2+3*(1<2+3*4)))", Check.value("1<2+3*(1<2+3*(1<2+3*(1<2+3*4)))"), 1);
        check.due("a long sum", Check.value("1+".repeat(197) + "1"), 198);
        check.due("a long product", Check.value("-1*".repeat(131) + "1"), -1);
        BoardScript x = Check.script("!#;!@0:0;!@(#-1):0;!@1:5+'2;!''0;!-@0:0;!@@0:3:0;");
        x.object(11);
        x.object(22);
        x.field(1, 5, 5);
        x.field(0, 3, 1);
        x.list(3);
        x.run(99);
        check.outputs("atoms of the board", x, 2, 11, 22, 5, 0, -11, 22);
    }

    /** As many operands as can be wait for what is joined to them. */
    private static void allWaiting(String expression, int want) {
        check.due(expression, Check.value(expression), want);
    }

    private static void wrapping() {
        String big = "a=1;*b<63{a=a*2;b=b+1;}";
        BoardScript x = Check.script(big + "+a;+a-1;+-a;+a/-1;+a%-1;+a*a;+a+a;+a<0;");
        check.due("wraps", x.run(300), 0);
        long[] due = {Long.MIN_VALUE, Long.MAX_VALUE, Long.MIN_VALUE, Long.MIN_VALUE, 0, 0, 0, 1};
        for (int i = 0; i < due.length; i++) {
            check.due("wrapped " + i, x.at(i, 0), due[i]);
        }
        check.outputs("lowest 32 bits", Check.ran(big + "!a-1;!a;!a+5;!9999*9999*9999;"), -1, 0, 5, (int) (9999L * 9999 * 9999));
        check.error("lowest 32 bits", Check.ran(big + "^a-1;"), 4, 23, -1, 1);
        BoardScript y = Check.script(big + "!@(a+a):0;!'(a+a);!@(a*2+c):0;c=1;d=a/1024/1024/1024*2;!@d:0;");
        y.object(6);
        y.list(1);
        check.due("a number of an object is a long", y.run(300), 1);
        check.outputs("a number of an object is a long", y, 6, 0, 6);
        check.due("error(0)", y.error(0), 2);
    }

    private static void statements() {
        check.outputs("variables are 0", Check.ran("!a;!z;a=5;!a;z=a+1;!z;"), 0, 0, 5, 6);
        BoardScript x = Check.script("a=a+1;!a;");
        x.run(9);
        x.run(9);
        check.outputs("variables are 0 at each run", x, 1);
        check.outputs("? not 0", Check.ran("?-5{!1;}{!2;}"), 1);
        check.outputs("? 0", Check.ran("?0{!1;}{!2;}"), 2);
        check.outputs("? 0 without another", Check.ran("?0{!1;}!3;"), 3);
        check.outputs("? not 0 without another", Check.ran("?1{!1;}!3;"), 1, 3);
        check.outputs("*", Check.ran("a=3;*a{!a;a=a-1;}!9;"), 3, 2, 1, 9);
        check.outputs("* never", Check.ran("*0{!1;}!9;"), 9);
        check.outputs("* within *", Check.ran("*a<2{b=0;*b<2{!a*10+b;b=b+1;}a=a+1;}"), 0, 1, 10, 11);
        check.outputs("<", Check.ran("<3;'0=4;'2='0+1;!'0+'1+'2;<3;!'0+'2;"), 9, 0);
        check.outputs("< 20 and 0", Check.ran("<20;'19=1;!'19;<0;<1;!'0;"), 1, 0);
        BoardScript board = Check.ran("+7;@0:1=8;@0:0=@0:1+1;!@0:0;+5;!#;!@1:1;");
        check.outputs("+ and @", board, 9, 2, 0);
        check.due("at(0, 1)", board.at(0, 1), 8);
        check.due("at(1, 0)", board.at(1, 0), 5);
        check.outputs("a new object's fields are 0 behind an act",
            fields0());
    }

    /** An OBJECT that an ACT took away leaves nothing to the next one with its number. */
    private static BoardScript fields0() {
        BoardScript x = Check.script("[+1;@0:4=9;^1;]");
        x.run(9);
        check.due("taken away", x.object(2), 0);
        check.due("no old field", x.at(0, 4), 0);
        return x;
    }

    private static void outputs() {
        BoardScript x = Check.ran("*a<50{!a;a=a+1;}");
        for (int i = 0; i < 40; i++) {
            check.due("output(" + i + ")", x.output(i), i);
        }
        int[] wrong = {40, 41, -1, Integer.MIN_VALUE, Integer.MAX_VALUE};
        for (int i : wrong) {
            check.outOfBounds("output(" + i + ")", () -> x.output(i));
        }
        check.due("the 41st is reckoned", Check.ran("*a<40{!a;a=a+1;}!1/0;").error(0), 1);
        x.read();
        x.run(1);
        check.outputs("another run", x);
    }

    private static void failsWith(String text, int kind, int place, int value) {
        check.fails(text, kind, place, value);
    }

    private static void errorsByKind() {
        failsWith("a=1;b=1/0;", 1, 4, 0);
        failsWith("b=1%(a*2);", 1, 0, 0);
        failsWith("!0/0;", 1, 0, 0);
        failsWith("!@0:0;", 2, 0, 0);
        failsWith("+1;!@1:0;", 2, 3, 0);
        failsWith("+1;!@-1:0;", 2, 3, 0);
        failsWith("+1;@1:0=1;", 2, 3, 0);
        failsWith("+1;@-1:0=1;", 2, 3, 0);
        failsWith("!'0;", 2, 0, 0);
        failsWith("<3;!'3;", 2, 3, 0);
        failsWith("<3;!'-1;", 2, 3, 0);
        failsWith("<3;'3=1;", 2, 3, 0);
        failsWith("<3;'-1=1;", 2, 3, 0);
        failsWith("<21;", 3, 0, 0);
        failsWith("<-1;", 3, 0, 0);
        failsWith("*a<12{+a;a=a+1;}+1;", 3, 16, 0);
        failsWith("^0;", 4, 0, 0);
        failsWith("^-7;", 4, 0, -7);
        failsWith("^1/0;", 1, 0, 0);
        failsWith("?1/0{}", 1, 0, 0);
        failsWith("*9/(3-a){a=a+1;}", 1, 0, 0);
        failsWith("Q;", 6, 0, 0);
        failsWith("?1{[^8;]}", 4, 4, 8);
        failsWith(":A{[a=1/0;]}A;", 1, 4, 0);
        BoardScript x = Check.ran("<3;'1=4;<21;");
        Check.read(x, "!'1;");
        check.due("a wrong < lets the list stay", x.run(9), 0);
        check.outputs("a wrong < lets the list stay", x, 4);
        BoardScript full = Check.ran("*a<13{+a;a=a+1;}");
        check.due("error(0)", full.error(0), 3);
        check.due("at(11, 0)", full.at(11, 0), 11);
        int[] wrong = {3, -1, Integer.MIN_VALUE, Integer.MAX_VALUE};
        for (int what : wrong) {
            check.outOfBounds("error(" + what + ")", () -> full.error(what));
            check.outOfBounds("new error(" + what + ")", () -> new BoardScript().error(what));
        }
        BoardScript good = Check.ran("a=1;");
        check.error("without an error", good, 0, BoardScript.NONE, 0, 0);
    }

    private static void errorOrder() {
        failsWith("!1/0+@9:0;", 1, 0, 0);
        failsWith("!@9:0+1/0;", 2, 0, 0);
        failsWith("!@9:0/0;", 2, 0, 0);
        failsWith("!1/@9:0;", 2, 0, 0);
        failsWith("!'(1/0);", 1, 0, 0);
        failsWith("@(1/0):0=@9:0;", 1, 0, 0);
        failsWith("'(1/0)=@9:0;", 1, 0, 0);
        failsWith("@9:0=1/0;", 2, 0, 0);
        failsWith("'9=1/0;", 2, 0, 0);
        failsWith("*a<12{+a;a=a+1;}+1/0;", 1, 16, 0);
        BoardScript x = Check.script("@0:0=1/0;");
        x.object(5);
        check.due("run", x.run(9), 1);
        check.due("the field stays", x.at(0, 0), 5);
        check.outputs("the variable stays", Check.ran("a=5;~{a=1/0;}{!a;}"), 5);
    }

    private static void functions() {
        check.outputs("told ahead", Check.ran(":A{!1;}A;!2;A;"), 1, 2, 1);
        check.outputs("told behind", Check.ran("A;:A{!1;}"), 1);
        check.outputs("walked it does nothing", Check.ran(":A{!1;}"));
        check.outputs("within one", Check.ran(":A{!1;B;!3;}:B{!2;}A;"), 1, 2, 3);
        BoardScript x = Check.ran(":A{!1;A;!9;}A;");
        check.outputs("within itself", x, 1, 1);
        check.error("within itself", x, 5, 6, 0, 1);
        BoardScript y = Check.ran(":A{B;}:B{C;}:C{!1;}A;");
        check.outputs("within two", y);
        check.error("within two", y, 5, 9, 0, 1);
        check.due("one behind another is not within it", Check.ran(":A{B;B;B;}:B{}A;A;A;").error(0), 0);
        check.error("not there within two", Check.ran(":A{B;}:B{Q;}A;"), 6, 9, 0, 1);
        BoardScript z = Check.script("A;");
        check.due("functions of an old script", z.run(9), 1);
        Check.read(z, ":A{}");
        Check.read(z, "A;");
        check.due("functions of an old script", z.run(9), 1);
        check.outputs("variables are shared", Check.ran("a=1;A;!a;:A{a=a+1;?a{a=a*10;}}"), 20);
    }

    private static void took(String text, long steps) {
        BoardScript x = Check.script(text);
        x.run(300);
        check.due("steps of " + text, x.steps(), steps);
    }

    private static void stepsTaken() {
        took("", 0);
        took(":A{a=1;}", 0);
        took("a=1;", 1);
        took(":A{a=1;b=1;}A;", 3);
        took("?1{a=1;}{b=1;c=1;}", 2);
        took("?0{a=1;}{b=1;c=1;}", 3);
        took("?0{a=1;}", 1);
        took("*0{a=1;}", 1);
        took("*a<3{a=a+1;}", 7);
        took("*a<3{?1{a=a+1;}}", 10);
        took("[]", 1);
        took("[a=1;]", 2);
        took("~{}{}", 1);
        took("~{a=1;}{b=1;c=1;}", 4);
        took("~{^1;a=1;}{b=1;}c=1;", 3);
        took("+1;+1;|1;&1;<1;!1;'0=1;@0:0=1;", 8);
        took("*1{}", 300);
    }

    private static void stepsSpent() {
        BoardScript x = Check.script("!1;!2;:A{!3;}");
        check.due("all steps, but no more", x.run(2), 0);
        check.due("one too few", x.run(1), 2);
        check.due("steps()", x.steps(), 1);
        check.outputs("one too few", x, 1);
        BoardScript loop = Check.script("*a<3{a=a+1;}");
        check.due("a loop's last question", loop.run(7), 0);
        check.due("a loop's last question", loop.run(6), 2);
        BoardScript empty = Check.script("*1{}!1;");
        check.due("an empty loop", empty.run(300), 2);
        check.due("an empty loop", empty.steps(), 300);
        check.outputs("an empty loop", empty);
        BoardScript error = Check.script("a=1;^5;");
        check.due("an error with the last step", error.run(2), 1);
        check.error("an error with the last step", error, 4, 4, 5, 1);
        check.due("no error without the step", error.run(1), 2);
        check.error("no error without the step", error, 0, BoardScript.NONE, 0, 0);
        BoardScript closing = Check.script("~{^5;}{!1;!2;}");
        check.due("an error on its way is lost", closing.run(3), 2);
        check.error("an error on its way is lost", closing, 0, BoardScript.NONE, 0, 0);
        check.outputs("an error on its way is lost", closing, 1);
        check.due("an error on its way", closing.run(4), 1);
        check.error("an error on its way", closing, 4, 2, 5, 1);
    }

    private static void lines() {
        check.due("line 1", Check.ran("^1;\n\n").line(), 1);
        check.due("line 2", Check.ran("a=1;\n^1;").line(), 2);
        check.due("line 4", Check.ran("\n\n\n^1;").line(), 4);
        check.due("in a block", Check.ran("a=1;\n[\n\n^1;]").line(), 4);
        check.due("in a second block", Check.ran("~{\na=1;\n}{\n^1;}").line(), 4);
        check.due("behind a block", Check.ran("[\n\n]\n^1;").line(), 4);
        check.due("in a function", Check.ran(":A{\n^1;}\n\nA;").line(), 2);
        check.due("of a call", Check.ran("\n\nA;").line(), 3);
        check.due("without an error", Check.ran("\n\na=1;").line(), 0);
        BoardScript act = Check.script("a=1;\n[\nb=1;]");
        act.failAt(0);
        act.run(9);
        check.error("an act's own", act, 7, 5, 0, 2);
        check.due("a bad read", Check.read(act, "\n\n\n\n1"), -5);
        check.due("the script's text stays", act.line(), 2);
    }
}
