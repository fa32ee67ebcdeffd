/** Promises 4, 5, 7, 16 and 18: object(), field(), at(), list(), clear(). */
public final class BoardTest {
    private static final Check check = new Check();

    public static void main(String[] args) {
        objects();
        fields();
        list();
        clear();
        check.finish();
    }

    private static void objects() {
        BoardScript x = new BoardScript();
        for (int i = 0; i < 12; i++) {
            check.due("object " + i, x.object(i == 3 ? Integer.MIN_VALUE : 10 + i), i);
        }
        check.due("object 12", x.object(1), BoardScript.NONE);
        check.due("at(3, 0)", x.at(3, 0), Integer.MIN_VALUE);
        check.due("at(11, 0)", x.at(11, 0), 21);
        for (int name = 1; name < 6; name++) {
            check.due("at(11, " + name + ")", x.at(11, name), 0);
        }
        check.outOfBounds("at(12, 0)", () -> x.at(12, 0));
        BoardScript y = Check.ran("[+1;@0:1=1;@0:2=2;@0:3=3;@0:4=4;@0:5=5;^1;]");
        check.due("object(7) where an act took one away", y.object(7), 0);
        check.due("its field 0", y.at(0, 0), 7);
        for (int name = 1; name < 6; name++) {
            check.due("its field " + name, y.at(0, name), 0);
        }
    }

    private static void fields() {
        BoardScript x = new BoardScript();
        x.object(4);
        check.due("field(0, 0, 4)", x.field(0, 0, 4), false);
        check.due("field(0, 5, MIN)", x.field(0, 5, Long.MIN_VALUE), true);
        check.due("field(0, 5, MIN) again", x.field(0, 5, Long.MIN_VALUE), false);
        check.due("field(0, 5, MIN + 2^32)", x.field(0, 5, Long.MIN_VALUE + (1L << 32)), true);
        check.due("at(0, 5)", x.at(0, 5), Long.MIN_VALUE + (1L << 32));
        int[][] wrong = {{-1, 0}, {1, 0}, {0, -1}, {0, 6}, {Integer.MIN_VALUE, 0}, {Integer.MAX_VALUE, 5},
            {0, Integer.MIN_VALUE}, {0, Integer.MAX_VALUE}, {-1, 6}, {1, -6}};
        for (int[] w : wrong) {
            check.outOfBounds("field(" + w[0] + ", " + w[1] + ")", () -> x.field(w[0], w[1], 1));
            check.outOfBounds("at(" + w[0] + ", " + w[1] + ")", () -> x.at(w[0], w[1]));
        }
        check.due("at(0, 0)", x.at(0, 0), 4);
    }

    private static void list() {
        BoardScript x = new BoardScript();
        check.due("list(-1)", x.list(-1), 3);
        check.due("list(21)", x.list(21), 3);
        check.due("list(MIN)", x.list(Integer.MIN_VALUE), 3);
        check.due("list(MAX)", x.list(Integer.MAX_VALUE), 3);
        check.due("list(20)", x.list(20), 0);
        Check.read(x, "!'19;'19=5;!'19;");
        check.due("run", x.run(9), 0);
        check.outputs("list(20)", x, 0, 5);
        check.due("run again", x.run(9), 0);
        check.outputs("the list stays behind a run", x, 5, 5);
        check.due("list(21) again", x.list(21), 3);
        x.run(9);
        check.outputs("a wrong list() lets it stay", x, 5, 5);
        check.due("list(20) again", x.list(20), 0);
        x.run(9);
        check.outputs("list() makes all 0", x, 0, 5);
        check.due("list(19)", x.list(19), 0);
        check.due("run without the place", x.run(9), 1);
        check.due("list(20) behind a shorter one", x.list(20), 0);
        x.run(9);
        check.outputs("no old places come back", x, 0, 5);
        check.due("list(0)", x.list(0), 0);
        Check.read(x, "!'0;");
        check.due("no place 0", x.run(9), 1);
    }

    private static void clear() {
        BoardScript x = new BoardScript();
        x.object(1);
        x.field(0, 3, 9);
        x.list(5);
        x.failAt(0);
        Check.read(x, "!1;|1;&1;~{}{}[]");
        check.due("run", x.run(99), 1);
        x.unit('a');
        x.clear();
        check.due("the text is gone", x.read(), 0);
        check.due("failAt() is gone", x.failAt(-1), false);
        check.outOfBounds("the objects are gone", () -> x.at(0, 0));
        check.outputs("cleared", x);
        check.error("cleared", x, 0, BoardScript.NONE, 0, 0);
        check.due("query(0)", x.query(0), BoardScript.NONE);
        check.due("closed(0)", x.closed(0), BoardScript.NONE);
        check.due("added(0)", x.added(0), BoardScript.NONE);
        check.due("restored()", x.restored(), false);
        check.due("steps()", x.steps(), 0);
        check.due("object(2)", x.object(2), 0);
        check.due("at(0, 3)", x.at(0, 3), 0);
        Check.read(x, "!'0;");
        check.due("the list is empty", x.run(9), 1);
        x.clear();
        check.due("the script is gone", x.run(9), 0);
        check.due("no steps", x.steps(), 0);
    }
}
