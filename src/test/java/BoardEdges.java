/** Promises 4, 5, 7, 16 and 18: object(), field(), at(), list(), clear(). */
final class BoardEdges extends Edges {
    private static final int[][] NO_FIELDS = {{-1, 0}, {2, 0}, {12, 0}, {0, -1}, {0, 6}, {1, 6}, {-1, 6}, {2, -1},
        {Integer.MIN_VALUE, 0}, {Integer.MAX_VALUE, 0}, {0, Integer.MIN_VALUE}, {0, Integer.MAX_VALUE}};

    BoardEdges(Check check, Document document) {
        super(check, document);
    }

    @Override
    void all() {
        section("Promise 4");
        sentence("A new OBJECT with FIELD 0: its number;", this::newObjects);
        sentence("NONE when there are 12.", this::thirteenObjects);
        section("Promise 5");
        sentence("An OBJECT's FIELD: whether it was another number.", this::fields);
        sentence("IndexOutOfBoundsException, when there is no such OBJECT, or FIELD.", this::noFields);
        section("Promise 7");
        sentence("An OBJECT's FIELD.", this::fieldsAsked);
        sentence("IndexOutOfBoundsException likewise.", this::noFieldsAsked);
        section("Promise 16");
        sentence("The LIST has so many places, all 0: 0;", this::lists);
        sentence("3, when it can not be (it stays).", this::noLists);
        section("Promise 18");
        sentence("As at first.", this::clear);
    }

    private void newObjects() {
        BoardScript x = new BoardScript();
        int[] kinds = {0, -1, Integer.MIN_VALUE, Integer.MAX_VALUE};
        for (int i = 0; i < kinds.length; i++) {
            check.due("object(" + kinds[i] + ")", x.object(kinds[i]), i);
            check.due("its field 0", x.at(i, 0), kinds[i]);
            for (int name = 1; name < 6; name++) {
                check.due("its field " + name, x.at(i, name), 0);
            }
        }
        BoardScript back = Check.ran("[+1;+2;@1:1=3;@1:5=4;^1;]");
        check.due("behind an act that put back", back.object(8), 0);
        check.due("behind an act that put back", back.object(9), 1);
        check.due("field 1 of it", back.at(1, 1), 0);
        check.due("field 5 of it", back.at(1, 5), 0);
        for (int name = 0; name < 6; name++) {
            back.field(0, name, 6);
        }
        back.clear();
        check.due("behind clear()", back.object(7), 0);
        for (int name = 0; name < 6; name++) {
            check.due("field " + name + " behind clear()", back.at(0, name), name == 0 ? 7 : 0);
        }
    }

    private void thirteenObjects() {
        BoardScript x = board("", 11);
        check.due("the 12th", x.object(1), 11);
        check.due("a 13th", x.object(2), NONE);
        check.due("a 13th again", x.object(3), NONE);
        check.due("the 12th stays", x.at(11, 0), 1);
        check.outOfBounds("no 13th", () -> x.at(12, 0));
        x.clear();
        check.due("behind clear()", x.object(1), 0);
    }

    private void fields() {
        BoardScript x = board("", 2);
        check.due("another", x.field(0, 0, 3), true);
        check.due("the same", x.field(0, 0, 3), false);
        check.due("0 as it was", x.field(1, 5, 0), false);
        long[] numbers = {Long.MIN_VALUE, Long.MAX_VALUE, -1, 1L << 32, 0};
        for (long v : numbers) {
            check.due("another, " + v, x.field(1, 5, v), true);
            check.due("at(1, 5)", x.at(1, 5), v);
            check.due("the same, " + v, x.field(1, 5, v), false);
        }
        check.due("the others stay", x.at(1, 0), 11);
        check.due("the others stay", x.at(0, 5), 0);
        check.due("the others stay", x.at(1, 4), 0);
    }

    private void noFields() {
        BoardScript x = board("", 2);
        for (int[] n : NO_FIELDS) {
            check.outOfBounds("field(" + n[0] + ", " + n[1] + ")", () -> x.field(n[0], n[1], 5));
        }
        for (int name = 0; name < 6; name++) {
            check.due("nothing was set", x.at(0, name), name == 0 ? 10 : 0);
            check.due("nothing was set", x.at(1, name), name == 0 ? 11 : 0);
        }
        check.outOfBounds("no objects", () -> new BoardScript().field(0, 0, 0));
        BoardScript full = board("", 12);
        check.due("the last one", full.field(11, 5, 1), true);
        check.outOfBounds("behind the last one", () -> full.field(12, 0, 1));
    }

    private void fieldsAsked() {
        BoardScript x = board("@1:5=4;@0:1=-@1:0;", 2);
        x.field(0, 5, Long.MIN_VALUE);
        x.run(9);
        check.due("at(0, 0)", x.at(0, 0), 10);
        check.due("at(0, 1)", x.at(0, 1), -11);
        check.due("at(0, 5)", x.at(0, 5), Long.MIN_VALUE);
        check.due("at(1, 5)", x.at(1, 5), 4);
    }

    private void noFieldsAsked() {
        BoardScript x = board("", 2);
        for (int[] n : NO_FIELDS) {
            check.outOfBounds("at(" + n[0] + ", " + n[1] + ")", () -> x.at(n[0], n[1]));
        }
        check.outOfBounds("no objects", () -> new BoardScript().at(0, 0));
        BoardScript back = Check.ran("[+1;^1;]");
        check.outOfBounds("one that was put back", () -> back.at(0, 0));
        BoardScript full = board("", 12);
        check.due("the last one", full.at(11, 5), 0);
        check.outOfBounds("behind the last one", () -> full.at(12, 0));
    }

    private void lists() {
        BoardScript x = Check.script("a=b;*a<20{!'a;'a=a+1;a=a+1;}");
        check.due("list(20)", x.list(20), 0);
        check.due("run", x.run(300), 0);
        check.outputs("20 places", x, new int[20]);
        check.due("list(20) again", x.list(20), 0);
        check.due("run", x.run(300), 0);
        check.outputs("all 0 again", x, new int[20]);
        check.due("list(1)", x.list(1), 0);
        check.due("run", x.run(300), 1);
        check.outputs("one place", x, 0);
        check.due("list(0)", x.list(0), 0);
        check.due("run", x.run(300), 1);
        check.outputs("no place", x);
        check.due("list(20) behind shorter ones", x.list(20), 0);
        check.due("run", x.run(300), 0);
        check.outputs("no old place comes back", x, new int[20]);
    }

    private void noLists() {
        BoardScript x = Check.script("!'0;!'1;!'2;");
        x.list(2);
        BoardScript y = Check.ran("<2;'0=5;'1=6;");
        Check.read(y, "!'0;!'1;!'2;");
        int[] none = {-1, 21, 22, Integer.MIN_VALUE, Integer.MAX_VALUE};
        for (int length : none) {
            check.due("list(" + length + ")", y.list(length), 3);
            check.due("run", y.run(9), 1);
            check.outputs("it stays", y, 5, 6);
            check.due("a new one's list(" + length + ")", new BoardScript().list(length), 3);
        }
        check.due("the run tells of its own alone", x.error(0), 0);
        check.due("list(21)", x.list(21), 3);
        noError("list() makes no error of a run", x);
    }

    private void clear() {
        BoardScript x = board("!1;+1;@0:3=9;|1;&1;<5;'4=1;~{}{}[]", 1);
        x.failAt(0);
        check.due("run", x.run(99), 1);
        x.unit('!');
        x.clear();
        check.outputs("outputs", x);
        noError("error", x);
        check.due("query(0)", x.query(0), NONE);
        check.due("added(0)", x.added(0), NONE);
        check.due("closed(0)", x.closed(0), NONE);
        check.due("restored()", x.restored(), false);
        check.due("steps()", x.steps(), 0);
        check.outOfBounds("objects", () -> x.at(0, 0));
        check.due("the script", x.run(99), 0);
        check.due("the script", x.steps(), 0);
        check.due("the text", x.read(), 0);
        check.due("failAt()", x.failAt(-1), false);
        check.due("object(7)", x.object(7), 0);
        check.due("its field 3", x.at(0, 3), 0);
        Check.read(x, "[!a;]A;");
        check.due("run", x.run(9), 1);
        check.error("functions", x, 6, 5, 0, 1);
        Check.read(x, "!'0;");
        check.due("the list", x.run(9), 1);
        check.error("the list", x, 2, 0, 0, 1);
        for (int i = 0; i < 400; i++) {
            x.unit('\n');
        }
        x.clear();
        check.due("room for a text", x.unit('a'), true);
        BoardScript fresh = new BoardScript();
        fresh.clear();
        check.due("of a new one", fresh.run(1), 0);
    }
}
