/** Promises 1 to 3: a new object, unit(), read(). */
final class ReadEdges extends Edges {
    ReadEdges(Check check, Document document) {
        super(check, document);
    }

    @Override
    void all() {
        section("Promise 1");
        sentence("No text, no OBJECTS, an empty LIST.", this::newObject);
        section("Promise 2");
        sentence("One more character of the text: true;", this::goodUnits);
        sentence("false, when it is not 32 .. 126 or 10, or there are 400.", this::refusedUnits);
        section("Promise 3");
        sentence("The text, gone then, becomes the script:", this::theTextIsGone);
        sentence("how many STATEMENTS (in BLOCKS, too, and :);", this::howMany);
        sentence("or -1 minus the place of the first character by which it is none (or its length);",
            this::firstWrongCharacter);
        sentence("a 101st STATEMENT,", this::manyStatements);
        sentence("a function that is told already, or not outside, at its first character (when its letter is there);",
            this::functions);
        sentence("too deep a BLOCK at its {, [,", this::deepBlocks);
        sentence("an ATOM too deep at its first character:", this::deepAtoms);
        sentence("then the script stays.", this::theScriptStays);
        sentence("(Of a good one there was no RUN yet.)", this::noRunYet);
    }

    private void newObject() {
        check.due("no text", new BoardScript().read(), 0);
        BoardScript x = new BoardScript();
        check.due("no script", x.run(1), 0);
        check.due("no script", x.steps(), 0);
        check.outOfBounds("no objects", () -> x.at(0, 0));
        Check.read(x, "!#;!'0;");
        check.due("an empty list", x.run(9), 1);
        check.outputs("no objects", x, 0);
        check.error("an empty list", x, 2, 3, 0, 1);
        check.due("no act fails", new BoardScript().failAt(-1), false);
        BoardScript y = new BoardScript();
        y.object(1);
        check.outOfBounds("nothing of another one's", () -> new BoardScript().at(0, 0));
    }

    private void goodUnits() {
        for (int u = 32; u <= 126; u++) {
            check.due("unit(" + u + ")", new BoardScript().unit(u), true);
        }
        check.due("unit(10)", new BoardScript().unit(10), true);
        BoardScript x = new BoardScript();
        for (int i = 0; i < 400; i++) {
            check.due("unit number " + i, x.unit(i < 396 ? '\n' : "!12;".charAt(i - 396)), true);
        }
        check.due("all 400 are in the text", x.read(), 1);
        check.due("in their order", x.run(1), 0);
        check.outputs("in their order", x, 12);
    }

    private void refusedUnits() {
        BoardScript x = new BoardScript();
        for (int u = -300; u <= 600; u++) {
            if (u != 10 && (u < 32 || u > 126)) {
                check.due("unit(" + u + ")", x.unit(u), false);
            }
        }
        int[] far = {Integer.MIN_VALUE, Integer.MAX_VALUE, 65536 + 'a', 65536 + 10, -65536 + 'a', 256 + 10};
        for (int u : far) {
            check.due("unit(" + u + ")", x.unit(u), false);
        }
        check.due("none is in the text", x.read(), 0);
        for (int i = 0; i < 399; i++) {
            x.unit('\n');
        }
        check.due("a 400th", x.unit('\n'), true);
        check.due("a 401st", x.unit('\n'), false);
        check.due("a 401st", x.unit('a'), false);
        check.due("it is not in the text", x.read(), 0);
        check.due("behind read()", x.unit('a'), true);
    }

    private void theTextIsGone() {
        BoardScript x = Check.script("!1;");
        check.due("run", x.run(9), 0);
        check.outputs("the script", x, 1);
        check.due("gone behind a good one", Check.read(x, "!2;!3;"), 2);
        x.run(9);
        check.outputs("the next one", x, 2, 3);
        check.due("a bad one", Check.read(x, "!"), -2);
        check.due("gone behind a bad one", Check.read(x, "4;"), -1);
        check.due("gone behind a bad one", Check.read(x, "!5;"), 1);
        check.due("an empty one", x.read(), 0);
        x.run(9);
        check.outputs("an empty one", x);
        for (int i = 0; i < 400; i++) {
            x.unit('}');
        }
        check.due("a full one", x.read(), -1);
        check.due("nothing of it", Check.read(x, "a=1"), -4);
        check.due("room again", x.unit('a'), true);
    }

    private void howMany() {
        check.reads("", 0);
        check.reads("a=1;", 1);
        check.reads(":A{}", 1);
        check.reads(":A{a=1;b=1;}", 3);
        check.reads("[a=1;[b=1;]]", 4);
        check.reads("?1{a=1;}{b=1;c=1;}", 4);
        check.reads("*1{~{a=1;}{b=1;}}", 4);
        check.reads("A;".repeat(100), 100);
        check.reads(":A{" + "A;".repeat(99) + "}", 100);
    }

    private void firstWrongCharacter() {
        check.bad(";", 0);
        check.bad(" a=1;", 0);
        check.bad("a=1;}", 4);
        check.bad("a=1;]", 4);
        check.bad("[a=1;}", 5);
        check.bad("{a=1;}", 0);
        check.bad("a=1;b==;c==;", 6);
        check.bad("a", 1);
        check.bad("a=1", 3);
        check.bad("[", 1);
        check.bad("[a=1;", 5);
        check.bad("~{}", 3);
        check.bad("\n\na=1;\nb", 8);
        check.bad("\n".repeat(399) + "}", 399);
        check.bad("\n".repeat(399) + "[", 400);
        check.bad("!" + "1+".repeat(199) + "1", 400);
        check.reads("!" + "1+".repeat(198) + "12;", 1);
    }

    private void manyStatements() {
        String hundred = "A;".repeat(100);
        check.reads(hundred, 100);
        check.reads(hundred + "\n", 100);
        check.bad(hundred + "A;", 200);
        check.bad(hundred + "a", 200);
        check.bad(hundred + "a=", 200);
        check.bad(hundred + "[[[]]]", 200);
        check.bad(hundred + ":A{}", 200);
        check.bad(hundred + "\n\nA;", 202);
        check.bad("[" + hundred + "]", 199);
        check.bad("[" + "A;".repeat(98) + "[A;]]", 198);
        check.bad(":A{" + "A;".repeat(99) + "}:B{}", 202);
        BoardScript x = new BoardScript();
        check.due("a hundred", Check.read(x, hundred), 100);
        check.due("a hundred again", Check.read(x, hundred), 100);
        check.due("too many", Check.read(x, hundred + "A;"), -201);
        check.due("a hundred behind it", Check.read(x, hundred), 100);
    }

    private void functions() {
        check.bad(":A{}:A{}", 4);
        check.bad(":A{}:A", 4);
        check.bad(":A{}:A;", 4);
        check.bad(":A{}\n:B{}\n:A{}", 10);
        check.bad(":A{}:", 5);
        check.bad(":A{}:a{}", 5);
        check.bad("[:A{}]", 1);
        check.bad("[:A", 1);
        check.bad("[[:A;", 2);
        check.bad("[:", 2);
        check.bad("[:1", 2);
        check.bad("[:a{}]", 2);
        check.bad(":A{:A{}}", 3);
        check.bad(":A{:B{}}", 3);
        check.bad(":A{:}", 4);
        check.bad("[:A{}]:A{}", 1);
        BoardScript x = new BoardScript();
        check.due("told", Check.read(x, ":A{}"), 1);
        check.due("told in the script before", Check.read(x, ":A{}"), 1);
        check.due("told in a bad text", Check.read(x, ":B{}1"), -5);
        check.due("told in a bad text before", Check.read(x, ":B{}"), 1);
    }

    private void deepBlocks() {
        check.bad("[[[]]]", 2);
        check.bad("[[[", 2);
        check.bad("[[a=1;[", 6);
        check.bad("[[?1{}]]", 4);
        check.bad("[[?1+1{", 6);
        check.bad("[[*1{}]]", 4);
        check.bad("[[~{}{}]]", 3);
        check.bad("[[?1;]]", 4);
        check.bad(":A{[[]]}", 4);
        check.bad(":A{?1{?1{}}}", 8);
        check.bad("?1{}{?1{}{[]}}", 10);
        check.bad("~{}{~{}{*1{}}}", 10);
        check.reads("[[]][[]]", 4);
    }

    private void deepAtoms() {
        check.bad("a=((((1))));", 5);
        check.bad("a=((((", 5);
        check.bad("a=----1;", 5);
        check.bad("a=@@@@0:0:0:0:0;", 5);
        check.bad("a=''''0;", 5);
        check.bad("a=(1+(2*(3-(4))));", 11);
        check.bad("@@@@@0:0:0:0:0:0=1;", 4);
        check.bad("'''''0=1;", 4);
        check.bad("'0=''''0;", 6);
        check.bad("!(((b+-c)));", 6);
        check.reads("!(((b-c)));", 1);
    }

    private void theScriptStays() {
        BoardScript x = Check.script("!7;A;:A{^8;}");
        String[] bad = {"1", "a=1", "A;".repeat(101), ":A{}:A{}", "[:A{}]", "[[[]]]", "a=((((1))));", ":A{!1;}:B{", "!9;!"};
        for (String text : bad) {
            check.due("read of " + text, Check.read(x, text) < 0, true);
            check.due("run behind " + text, x.run(9), 1);
            check.outputs("behind " + text, x, 7);
            check.error("behind " + text, x, 4, 8, 8, 1);
        }
        Check.read(x, "}");
        check.outputs("its run stays, too", x, 7);
        check.error("its run stays, too", x, 4, 8, 8, 1);
        check.due("its run stays, too", x.steps(), 3);
        BoardScript none = new BoardScript();
        Check.read(none, "!1;!");
        check.due("no script stays none", none.run(9), 0);
        check.outputs("no script stays none", none);
    }

    private void noRunYet() {
        BoardScript x = Check.script("!5;+3;|1;&1;~{}{}[^2;]");
        check.due("run", x.run(99), 1);
        check.due("read", Check.read(x, "a=1;"), 1);
        check.outputs("no outputs", x);
        noError("no error", x);
        check.due("query(0)", x.query(0), NONE);
        check.due("added(0)", x.added(0), NONE);
        check.due("closed(0)", x.closed(0), NONE);
        check.due("restored()", x.restored(), false);
        check.due("steps()", x.steps(), 0);
        check.due("the objects stay", x.at(0, 0), 3);
        BoardScript y = Check.ran("!5;");
        check.due("an empty text is a good one", y.read(), 0);
        check.outputs("an empty text is a good one", y);
        check.due("an empty text is a good one", y.steps(), 0);
    }

    /** The dearest calls, as many as there may be, on one object. */
}
