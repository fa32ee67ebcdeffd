/** The Terms up to the EXPRESSIONS: how many there are of what, numbers, ATOMS, what joins them, how deep. */
final class ExpressionEdges extends Edges {
    private static final String OPENERS = "(-@'";

    ExpressionEdges(Check check, Document document) {
        super(check, document);
    }

    @Override
    void all() {
        section("Terms");
        sentence("OBJECTS, numbered from 0, at most 12,", this::objects);
        sentence("have FIELDS 0 .. 5 (longs).", this::fields);
        sentence("VARIABLES are a .. z (longs).", this::variables);
        sentence("The LIST has 0 to 20 places.", this::list);
        sentence("Reckoning wraps as longs do.", this::wrapping);
        sentence("An ATOM: one to four digits;", this::digits);
        sentence("a VARIABLE's letter;", this::letters);
        sentence("- and an ATOM;", this::minus);
        sentence("( an EXPRESSION );", this::parentheses);
        sentence("@ an ATOM : a digit 0 .. 5: that OBJECT's FIELD;", this::fieldAtoms);
        sentence("' and an ATOM: that place of the LIST (from 0);", this::places);
        sentence("#: how many OBJECTS there are.", this::count);
        sentence("A PRODUCT: ATOMS with *, /, % between, from left to right", this::products);
        sentence("(/ cuts towards 0, % is what is left by it);", this::quotients);
        sentence("a SUM: PRODUCTS with +, - between;", this::sums);
        sentence("an EXPRESSION: a SUM, or two with < or = between, 1 when it is so, else 0.", this::comparisons);
        sentence("(, - ahead of an ATOM, @ and ' lie in one another up to three deep;", this::threeDeep);
        sentence("a STATEMENT's own @ or ' is none of them.)", this::ownOnes);
    }

    private void objects() {
        BoardScript x = new BoardScript();
        for (int i = 0; i < 12; i++) {
            check.due("object " + i, x.object(50 + i), i);
        }
        check.due("a 13th", x.object(62), NONE);
        Check.read(x, "!@0:0;!@11:0;!#;!@12:0;");
        check.due("run", x.run(9), 1);
        check.outputs("the first and the last", x, 50, 61, 12);
        check.error("there is no number 12", x, 2, 16, 0, 1);
    }

    private void fields() {
        BoardScript x = Check.script("@0:5=@0:5+1;@0:0=@0:0-1;");
        x.object(0);
        for (int name = 0; name < 6; name++) {
            x.field(0, name, Long.MAX_VALUE - name);
        }
        for (int name = 0; name < 6; name++) {
            check.due("at(0, " + name + ")", x.at(0, name), Long.MAX_VALUE - name);
        }
        x.run(9);
        check.due("field 5, one more", x.at(0, 5), Long.MAX_VALUE - 4);
        check.due("field 0, one less", x.at(0, 0), Long.MAX_VALUE - 1);
        check.outOfBounds("at(0, 6)", () -> x.at(0, 6));
        check.outOfBounds("at(0, -1)", () -> x.at(0, -1));
    }

    private void variables() {
        StringBuilder text = new StringBuilder();
        StringBuilder shown = new StringBuilder();
        int[] due = new int[26];
        for (int i = 0; i < 26; i++) {
            text.append((char) ('a' + i)).append('=').append(i + 1).append(';');
            shown.append('!').append((char) ('a' + i)).append(';');
            due[i] = i + 1;
        }
        check.outputs("all 26", Check.ran(text.append(shown).toString()), due);
        String[] none = {"`", "{", "A", "Z", "@", "["};
        for (String c : none) {
            check.bad("!" + c + ";", c.equals("@") ? 2 : 1);
        }
        check.bad("`=1;", 0);
        check.bad("{=1;", 0);
        check.bad("A=1;", 1);
        BoardScript x = Check.ran("a=9999*9999*9999*9999;z=-a;+a;+z;");
        check.due("a long", x.at(0, 0), 9999L * 9999 * 9999 * 9999);
        check.due("a long below 0", x.at(1, 0), -9999L * 9999 * 9999 * 9999);
    }

    private void list() {
        BoardScript x = Check.script("!'0;!'19;!'20;");
        check.due("list(20)", x.list(20), 0);
        check.due("20 places", x.run(9), 1);
        check.outputs("20 places", x, 0, 0);
        check.error("no place 20", x, 2, 9, 0, 1);
        check.due("list(0)", x.list(0), 0);
        check.due("no places", x.run(9), 1);
        check.error("no place 0", x, 2, 0, 0, 1);
        check.due("list(21)", x.list(21), 3);
        check.due("list(-1)", x.list(-1), 3);
        BoardScript y = Check.ran("<1;'0=9999*9999*9999;+'0;");
        check.due("a long in it", y.at(0, 0), 9999L * 9999 * 9999);
    }

    private void wrapping() {
        check.due("MAX+1", wide("@0:2+1"), Long.MIN_VALUE);
        check.due("MIN-1", wide("@0:1-1"), Long.MAX_VALUE);
        check.due("MIN+MIN", wide("@0:1+@0:1"), 0);
        check.due("MAX*2", wide("@0:2*2"), -2);
        check.due("MAX*MAX", wide("@0:2*@0:2"), 1);
        check.due("MIN*-1", wide("@0:1*-1"), Long.MIN_VALUE);
        check.due("-MIN", wide("-@0:1"), Long.MIN_VALUE);
        check.due("MIN/-1", wide("@0:1/-1"), Long.MIN_VALUE);
        check.due("MIN%-1", wide("@0:1%-1"), 0);
        check.due("past 32 bits nothing wraps", wide("9999*9999*9999"), 9999L * 9999 * 9999);
    }

    private void digits() {
        value("0", 0);
        value("9", 9);
        value("10", 10);
        value("0000", 0);
        value("0090", 90);
        value("9999", 9999);
        check.bad("!00000;", 5);
        check.bad("!12345;", 5);
        check.bad("'12345=1;", 5);
        check.bad("!;", 1);
        check.bad("!/;", 1);
        check.bad("!:;", 1);
    }

    private void letters() {
        check.outputs("one letter", Check.ran("a=3;z=4;!a;!z;!a*z;"), 3, 4, 12);
        check.bad("!ab;", 2);
        check.bad("!a1;", 2);
        check.bad("!1a;", 2);
    }

    private void minus() {
        value("-5", -5);
        value("-0", 0);
        value("--5", 5);
        value("-2+3", 1);
        value("-(2+3)", -5);
        value("-#", 0);
        value("3--2", 5);
        value("3*-2", -6);
        check.bad("!-;", 2);
        check.bad("!-+1;", 2);
    }

    private void parentheses() {
        value("(7)", 7);
        value("(2+3)*4", 20);
        value("(1<2)+(2=2)", 2);
        check.bad("!();", 2);
        check.bad("!(1;", 3);
        check.bad("!1);", 2);
        check.bad("!(1<2<3);", 5);
    }

    private void fieldAtoms() {
        BoardScript x = Check.script("!@0:0;!@0:1;!@0:2;!@0:3;!@0:4;!@0:5;!@1:5;!@@1:5:0;!@(#-1):0;");
        for (int object = 0; object < 2; object++) {
            x.object(70 * object);
            for (int name = 1; name < 6; name++) {
                x.field(object, name, 70 * object + name);
            }
        }
        x.field(1, 5, 1);
        x.run(99);
        check.outputs("each one", x, 0, 1, 2, 3, 4, 5, 1, 70, 70);
        String[] none = {"6", "7", "9", "/", ":", "a", "-", ""};
        for (String digit : none) {
            check.bad("!@0:" + digit + ";", 4);
        }
        check.bad("!@0:00;", 5);
        check.bad("!@:0;", 2);
        check.bad("!@0;", 3);
        check.bad("!@0+0:0;", 3);
    }

    private void places() {
        check.outputs("each one", Check.ran("<3;'0=2;'1=6;'2=7;!'0;!'1;!'2;!''0;!'(1+1);!'1+1;"), 2, 6, 7, 7, 7, 7);
        check.fails("<3;!'3;", 2, 3, 0);
        check.fails("<3;!'-1;", 2, 3, 0);
        check.bad("!';", 2);
        check.bad("!'+1;", 2);
    }

    private void count() {
        for (int n = 0; n <= 12; n++) {
            BoardScript x = board("!#;", n);
            x.run(9);
            check.outputs(n + " of them", x, n);
        }
        BoardScript x = board("~{[+1;!#;^1;]}{!#;}+1;", 2);
        x.run(9);
        check.outputs("one more, and put back", x, 3, 2);
    }

    private void products() {
        value("7/2*2", 6);
        value("2*7/4", 3);
        value("100/5/2", 10);
        value("17%10%4", 3);
        value("17%10*4", 28);
        value("4*17%10", 8);
        check.bad("!1*;", 3);
        check.bad("!*1;", 1);
        check.bad("!2**2;", 3);
        check.bad("!2/;", 3);
        check.bad("!2%;", 3);
    }

    private void quotients() {
        int[][] both = {{7, 2, 3, 1}, {-7, 2, -3, -1}, {7, -2, -3, 1}, {-7, -2, 3, -1}, {1, 2, 0, 1}, {-1, 2, 0, -1}, {6, 3, 2, 0}};
        for (int[] b : both) {
            value(b[0] + "/" + b[1], b[2]);
            value(b[0] + "%" + b[1], b[3]);
        }
        value("0/5", 0);
        value("0%5", 0);
    }

    private void sums() {
        value("2+3*4", 14);
        value("20-5-3", 12);
        value("20-5+3", 18);
        value("2*3-4*5", -14);
        check.bad("!1+;", 3);
        check.bad("!+1;", 1);
        check.bad("!1++1;", 3);
        check.bad("!1-;", 3);
    }

    private void comparisons() {
        value("1<2", 1);
        value("2<2", 0);
        value("3<2", 0);
        value("2=2", 1);
        value("2=3", 0);
        value("1+1=4-2", 1);
        value("2*3<3+4", 1);
        check.due("MIN<MAX", wide("@0:1<@0:2"), 1);
        check.due("MAX<MIN", wide("@0:2<@0:1"), 0);
        check.due("MIN=0", wide("@0:1=0"), 0);
        check.bad("!1<2<3;", 4);
        check.bad("!1=2=3;", 4);
        check.bad("!1<2=3;", 4);
        check.bad("!1<;", 3);
        check.bad("!<1;", 1);
        check.bad("!1<=2;", 3);
        check.bad("!1>2;", 2);
    }

    /** An ATOM that opens as these characters do, each within the one before it. */
    private static String nested(String openers) {
        String atom = "0";
        for (int i = openers.length() - 1; i >= 0; i--) {
            char opener = openers.charAt(i);
            atom = opener + atom + (opener == '(' ? ")" : opener == '@' ? ":0" : "");
        }
        return atom;
    }

    /** The number's digits in base four, as openers. */
    private static String openers(int number, int digits) {
        StringBuilder s = new StringBuilder();
        for (int i = 0; i < digits; i++) {
            s.append(OPENERS.charAt(number >> 2 * i & 3));
        }
        return s.toString();
    }

    private void threeDeep() {
        for (int i = 0; i < 64; i++) {
            check.reads("a=" + nested(openers(i, 3)) + ";", 1);
        }
        for (int i = 0; i < 256; i++) {
            check.bad("a=" + nested(openers(i, 4)) + ";", 5);
        }
        value("---5", -5);
        value("(((5)))", 5);
        value("(1)+(1)+(1)+(1)", 4);
        value("7=5+2*(5=4+1*(7=3+4*(9=1+8*1)))", 1);
        value("7=5+2*(5=4+1*(7=3+4*(9=1+8*2)))", 0);
        value("-(-5)+-(-5)", 10);
        check.bad("a=1<(((-1)));", 7);
        check.reads("?---1{!---1;}", 2);
    }

    private void ownOnes() {
        for (int i = 0; i < 64; i++) {
            check.reads("@" + nested(openers(i, 3)) + ":0=(((1)));", 1);
            check.reads("'" + nested(openers(i, 3)) + "=---1;", 1);
        }
        for (int i = 0; i < 256; i++) {
            check.bad("@" + nested(openers(i, 4)) + ":0=1;", 4);
            check.bad("'" + nested(openers(i, 4)) + "=1;", 4);
        }
    }
}
