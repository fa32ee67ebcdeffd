/** The Terms' ERRORS, each kind, where they go and what they leave; the STEPS; the constant. */
final class ErrorEdges extends Edges {
    ErrorEdges(Check check, Document document) {
        super(check, document);
    }

    @Override
    void all() {
        section("Terms");
        sentence("ERRORS: 1 a / or % by 0;", this::byZero);
        sentence("2 an OBJECT, or a place of the LIST, that is not there;", this::notThere);
        sentence("3 a LIST of fewer than 0 or more than 20 places, a 13th OBJECT;", this::tooMany);
        sentence("4 by ^;", this::told);
        sentence("5 a function within two others;", this::withinTwo);
        sentence("6 a function that is not there;", this::noFunction);
        sentence("7 by failAt().", this::ordered);
        sentence("An ERROR ends all up to the next ACT or CLOSING outwards:", this::endsAll);
        sentence("An ERROR ends all up to the next ACT or CLOSING outwards:", this::leavesWhatWas);
        sentence("an ACT puts all OBJECTS back as they were at its beginning (also how many), then it goes on outwards;",
            this::actsPutBack);
        sentence("behind the first BLOCK of ~, whether by an ERROR or not, the CLOSING one runs, then the ERROR goes on outwards, or, when the CLOSING one makes one, that in its place.",
            this::closings);
        sentence("(An ERROR in the QUERY leaves z as it is by then, and the latest QUERY before.)", this::inTheQuery);
        sentence("STEPS: each STATEMENT that is begun is one (but :), a * one each time E is asked.", this::steps);
        sentence("When all STEPS are spent, and another one would be, the RUN ends at once: nothing is put back, no CLOSING runs.",
            this::stepsSpent);
        sentence("The constants: `NONE = -1`: There is none.", this::constants);
    }

    private void byZero() {
        check.fails("!1/0;", 1, 0, 0);
        check.fails("!1%0;", 1, 0, 0);
        check.fails("!0/0;", 1, 0, 0);
        check.fails("!0%0;", 1, 0, 0);
        check.fails("a=5;!1/(a-5);", 1, 4, 0);
        check.fails("!1/0*0;", 1, 0, 0);
        check.fails("?1/0{}", 1, 0, 0);
        check.fails("*1%0{}", 1, 0, 0);
        check.fails("^1/0;", 1, 0, 0);
        check.fails("<1/0;", 1, 0, 0);
        check.fails("+1/0;", 1, 0, 0);
        check.fails("@(1/0):0=1;", 1, 0, 0);
        check.fails("'(1%0)=1;", 1, 0, 0);
        check.fails("+1;@0:0=1/0;", 1, 3, 0);
        check.fails("<1;'0=1/0;", 1, 3, 0);
        BoardScript x = wideBoard("!@0:1/(@0:1+@0:1);");
        check.due("by what wrapped to 0", x.run(9), 1);
        check.due("by what wrapped to 0", x.error(0), 1);
        check.due("0 by another", Check.script("!0/1;!0%-1;").run(9), 0);
        BoardScript high = wideBoard("!1/@0:1;");
        check.due("by what is 0 in its lowest 32 bits", high.run(9), 0);
    }

    private void notThere() {
        String[] read = {"!@0:0;", "!@-1:0;", "!'0;", "!'-1;", "@0:0=1;", "@-1:0=1;", "'0=1;", "'-1=1;"};
        for (String text : read) {
            check.fails(text, 2, 0, 0);
        }
        String[] next = {"+1;+1;!@2:0;", "+1;+1;@2:0=1;", "<2;a=1;!'2;", "<2;a=1;'2=1;"};
        for (String text : next) {
            check.fails(text, 2, text.startsWith("<") ? 7 : 6, 0);
        }
        String[] far = {"!@(@0:3):0;", "@(@0:3):0=1;", "!'(@0:3);", "'(@0:3)=1;"};
        long[] numbers = {1L << 32, -1L << 32, Long.MIN_VALUE, Long.MAX_VALUE};
        for (String text : far) {
            for (long number : numbers) {
                BoardScript x = board(text, 1);
                x.list(20);
                x.field(0, 3, number);
                check.due(text + " with " + number, x.run(9), 1);
                check.error(text + " with " + number, x, 2, 0, 0, 1);
            }
        }
        BoardScript last = board("!@11:5;@11:5=1;!'19;'19=1;", 12);
        last.list(20);
        check.due("the last ones are there", last.run(9), 0);
    }

    private void tooMany() {
        check.fails("<-1;", 3, 0, 0);
        check.fails("<21;", 3, 0, 0);
        check.due("0 and 20", Check.script("<0;<20;").run(9), 0);
        long[] numbers = {1L << 32, (1L << 32) + 5, Long.MIN_VALUE, Long.MAX_VALUE};
        for (long number : numbers) {
            BoardScript x = board("<@0:3;", 1);
            x.field(0, 3, number);
            x.run(9);
            check.error("< " + number, x, 3, 0, 0, 1);
        }
        BoardScript x = board("+1;+2;", 11);
        check.due("a 12th and a 13th", x.run(9), 1);
        check.error("a 13th", x, 3, 3, 0, 1);
        check.due("the 12th", x.at(11, 0), 1);
        check.outOfBounds("no 13th", () -> x.at(12, 0));
    }

    private void told() {
        check.fails("^7;", 4, 0, 7);
        check.fails("[^7;]", 4, 1, 7);
        check.fails("?1{^7;}", 4, 3, 7);
    }

    private void withinTwo() {
        check.fails(":A{B;}:B{C;}:C{}A;", 5, 9, 0);
        check.fails(":A{A;}A;", 5, 3, 0);
        check.fails(":A{?1{A;}}A;", 5, 6, 0);
        check.due("within one", Check.script(":A{B;}:B{}A;").run(9), 0);
        check.due("one behind another", Check.script(":A{B;B;}:B{}A;A;A;").run(30), 0);
        check.due("in blocks alone", Check.script("[?1{A;}]:A{[B;]}:B{[]}").run(9), 0);
        BoardScript x = Check.script(":A{A;}A;");
        check.due("run", x.run(9), 1);
        check.due("run again", x.run(9), 1);
        check.error("run again", x, 5, 3, 0, 1);
        Check.read(x, ":A{B;}:B{}A;");
        check.due("within one, behind it", x.run(9), 0);
    }

    private void noFunction() {
        check.fails("A;", 6, 0, 0);
        check.fails(":A{}Z;", 6, 4, 0);
        check.fails(":A{Z;}A;", 6, 3, 0);
        BoardScript x = Check.script(":A{}A;");
        check.due("there", x.run(9), 0);
        Check.read(x, "A;");
        check.due("not in the next script", x.run(9), 1);
        check.due("error(0)", x.error(0), 6);
    }

    private void ordered() {
        BoardScript x = Check.script("[]");
        check.due("none", x.run(9), 0);
        x.failAt(0);
        check.due("the first", x.run(9), 1);
        check.error("the first", x, 7, 0, 0, 1);
    }

    /** That the script ends with ERROR 4 and these outputs. */
    private void ended(String what, String text, int... outputs) {
        BoardScript x = Check.script(text);
        check.due(what + " run", x.run(99), 1);
        check.due(what + " error(0)", x.error(0), 4);
        check.outputs(what, x, outputs);
    }

    private void endsAll() {
        ended("a text", "!1;^1;!2;", 1);
        ended("blocks", "?1{?1{!1;^1;!2;}!3;}!4;", 1);
        ended("loops", "*1{*1{!1;^1;!2;}!3;}!4;", 1);
        ended("functions", ":A{!1;B;!2;}:B{^1;!3;}A;!4;", 1);
        ended("an act", "[!1;^1;!2;]!3;", 1);
        ended("a first block of ~", "~{!1;^1;!2;}{!3;}!4;", 1, 3);
        ended("a closing one", "~{!1;}{!2;^1;!3;}!4;", 1, 2);
        ended("a function within ~", "~{A;!1;}{!2;}:A{?1{^1;!3;}!4;}", 2);
    }

    /** The same sentence: the STATEMENT in which it came does no more either. */
    private void leavesWhatWas() {
        check.outputs("a variable", Check.ran("a=5;~{a=1/0;}{!a;}"), 5);
        check.outputs("a place", Check.ran("<1;'0=5;~{'0=1/0;}{!'0;}"), 5);
        check.outputs("the list, too long", Check.ran("<2;'1=5;~{<21;}{!'1;}"), 5);
        check.outputs("the list, too short", Check.ran("<2;'1=5;~{<-1;}{!'1;}"), 5);
        check.outputs("a field", Check.ran("+5;~{@0:0=1/0;}{!@0:0;}"), 5);
        check.outputs("how many objects", Check.ran("~{+1/0;}{!#;}"), 0);
        check.outputs("outputs", Check.ran("!1;~{!1/0;}{!2;}"), 1, 2);
        BoardScript x = board("~{+99;}{!#;!@11:0;}", 12);
        x.run(9);
        check.outputs("all twelve", x, 12, 21);
    }

    private void actsPutBack() {
        BoardScript x = board("@0:0=7;[@0:0=8;@1:5=9;+1;+1;'0=5;a=6;!1;^3;]!2;", 2);
        x.list(1);
        check.due("it goes on outwards", x.run(99), 1);
        check.error("it goes on outwards", x, 4, 40, 3, 1);
        check.outputs("it goes on outwards", x, 1);
        check.due("as at its beginning", x.at(0, 0), 7);
        check.due("as at its beginning", x.at(1, 5), 0);
        check.outOfBounds("also how many", () -> x.at(2, 0));
        Check.read(x, "!'0;");
        x.run(9);
        check.outputs("the list is no object", x, 5);
        check.outputs("variables are none", Check.ran("~{[a=6;^1;]}{!a;}"), 6);
        BoardScript full = board("[*a<12{@a:5=a+1;a=a+1;}^1;]", 12);
        full.run(99);
        for (int i = 0; i < 12; i++) {
            check.due("all twelve, " + i, full.at(i, 5), 0);
        }
        BoardScript inner = board("[@0:0=1;[@0:0=2;]@0:1=@0:0;^1;]", 1);
        inner.run(99);
        check.due("an inner one that went well, too", inner.at(0, 0), 10);
        BoardScript both = board("~{[@0:0=1;A;]}{!@0:0;}:A{~{B;}{!@0:0;}}:B{[@0:0=2;^1;]}", 1);
        both.run(99);
        check.outputs("each to its own beginning", both, 1, 10);
        BoardScript deepest = board("[@0:0=1;[@0:0=2;A;]]:A{@0:0=3;[@0:0=4;B;]}:B{@0:0=5;[@0:0=6;^@0:0;]}", 1);
        deepest.run(99);
        check.due("as many within one another as can be", deepest.error(2), 6);
        check.due("as many within one another as can be", deepest.at(0, 0), 10);
        BoardScript good = board("[@0:0=1;+5;]^1;", 1);
        good.run(99);
        check.due("one that went well puts nothing back", good.at(0, 0), 1);
        check.due("one that went well puts nothing back", good.at(1, 0), 5);
    }

    private void closings() {
        BoardScript none = Check.script("~{!1;}{!2;}!3;");
        check.due("without one", none.run(9), 0);
        check.outputs("without one", none, 1, 2, 3);
        BoardScript one = Check.script("~{^5;}{!2;}!3;");
        check.due("with one", one.run(9), 1);
        check.outputs("with one", one, 2);
        check.error("with one", one, 4, 2, 5, 1);
        check.fails("~{^5;}{^6;}", 4, 7, 6);
        check.fails("~{^5;}{!1/0;}", 1, 7, 0);
        check.fails("~{}{^6;}", 4, 4, 6);
        check.fails("~{~{^5;}{^6;}}{^7;}", 4, 15, 7);
        check.fails("~{~{^5;}{}}{}", 4, 4, 5);
        check.fails("~{^5;}{~{}{}}", 4, 2, 5);
        BoardScript empty = Check.script("~{}{}!1;");
        check.due("empty ones", empty.run(9), 0);
        check.outputs("empty ones", empty, 1);
    }

    private void inTheQuery() {
        BoardScript x = board("z=9;|z=1;~{|6/(2-z);}{!z;}", 4);
        check.due("run", x.run(99), 1);
        check.error("its own place", x, 1, 11, 0, 1);
        check.outputs("z at the third object", x, 2);
        check.due("the one before", x.query(0), 1);
        check.due("the one before", x.query(1), NONE);
        BoardScript first = board("z=9;~{|1/z;}{!z;}", 2);
        first.run(9);
        check.outputs("z at the first object", first, 0);
        check.due("none before", first.query(0), NONE);
        BoardScript last = board("z=9;|1;~{|1/(11-z);}{!z;}", 12);
        last.run(9);
        check.outputs("z at the last object", last, 11);
        check.due("all before", last.query(11), 11);
    }

    private void took(String text, int steps) {
        BoardScript x = Check.script(text);
        check.due("run of " + text, x.run(steps == 0 ? 1 : steps), 0);
        check.due("steps of " + text, x.steps(), steps);
        if (steps > 1) {
            check.due("one too few for " + text, x.run(steps - 1), 2);
        }
    }

    private void steps() {
        took("", 0);
        took(":A{a=1;}", 0);
        took("a=1;<1;'0=1;+1;@0:0=1;!1;&1;|1;", 8);
        took("?1{a=1;}{b=1;c=1;}", 2);
        took("?0{a=1;}{b=1;c=1;}", 3);
        took("?0{a=1;}", 1);
        took("*0{a=1;}", 1);
        took("*a<1{a=a+1;}", 3);
        took("*a<3{a=a+1;}", 7);
        took("[a=1;]", 2);
        took("~{a=1;}{b=1;}", 3);
        took(":A{a=1;}A;A;", 4);
        BoardScript x = Check.script("a=1;b=1/0;c=1;");
        x.run(9);
        check.due("one that ends with an error is begun", x.steps(), 2);
    }

    private void stepsSpent() {
        BoardScript exact = Check.script("!1;!2;:A{}");
        check.due("all, and no other one would be", exact.run(2), 0);
        check.due("another one would be", exact.run(1), 2);
        check.outputs("another one would be", exact, 1);
        BoardScript act = board("[@0:0=1;+7;!1;]", 1);
        act.failAt(0);
        check.due("in an act", act.run(3), 2);
        check.due("nothing is put back", act.at(0, 0), 1);
        check.due("nothing is put back", act.at(1, 0), 7);
        check.due("nothing is put back", act.restored(), false);
        noError("not at its end", act);
        BoardScript closing = Check.script("~{!1;!2;}{!3;}!4;");
        check.due("in a first block", closing.run(2), 2);
        check.outputs("no closing runs", closing, 1);
        check.due("no closing runs", closing.closed(0), NONE);
        BoardScript loop = Check.script("~{*1{}}{!3;}");
        check.due("in a loop", loop.run(300), 2);
        check.outputs("in a loop", loop);
        check.due("in a loop", loop.steps(), 300);
        BoardScript error = board("~{[@0:0=1;^5;]}{!1;!2;}", 1);
        check.due("with an error on its way", error.run(5), 2);
        noError("with an error on its way", error);
        check.due("the act was over", error.at(0, 0), 10);
        check.due("the act was over", error.restored(), true);
        BoardScript inCall = Check.script("A;!2;:A{!1;!9;}");
        check.due("in a function", inCall.run(2), 2);
        check.outputs("in a function", inCall, 1);
    }

    private void constants() {
        check.due("NONE", BoardScript.NONE, -1);
        check.due("there is none", new BoardScript().query(0), -1);
    }
}
