/** Promises 6, 8 to 15 and 17: run() and all that can be asked behind it. */
final class RunEdges extends Edges {
    RunEdges(Check check, Document document) {
        super(check, document);
    }

    @Override
    void all() {
        section("Promise 6");
        sentence("A RUN of the script, all VARIABLES 0 at first, no outputs, RULES, QUERY: 0;", this::runs);
        sentence("1, when an ERROR came outside;", this::runsWithErrors);
        sentence("2, when the STEPS were spent.", this::runsSpent);
        sentence("IllegalArgumentException, when steps are not 1 .. 300.", this::wrongSteps);
        section("Promise 8");
        sentence("The k-th OBJECT, rising, of the latest QUERY;", this::queries);
        sentence("NONE, when there are not so many (or k is below 0).", this::noQueries);
        section("Promise 9");
        sentence("The i-th output of the latest RUN, its lowest 32 bits.", this::outputs);
        sentence("IndexOutOfBoundsException, when there is none such.", this::noOutputs);
        section("Promise 10");
        sentence("Of the ERROR with which the latest RUN ended: its kind (what 0),", this::errorKinds);
        sentence("the place of the STATEMENT in which it came (1; an ACT's own one for 7),", this::errorPlaces);
        sentence("E's lowest 32 bits for 4, else 0 (2);", this::errorValues);
        sentence("0, NONE, 0 when it did not.", this::noErrors);
        sentence("IndexOutOfBoundsException, for another what.", this::wrongWhats);
        section("Promise 11");
        sentence("The place of the ~ of the k-th CLOSING BLOCK that began in the latest RUN (the first 20);",
            this::closings);
        sentence("NONE likewise.", this::noClosings);
        section("Promise 12");
        sentence("Whether an ACT put the OBJECTS back in the latest RUN.", this::restored);
        section("Promise 13");
        sentence("The k-th RULE of the latest RUN, asked now: 1 when it is not 0, else 0;", this::rules);
        sentence("-2 when it makes an ERROR;", this::failingRules);
        sentence("NONE, when there is none such.", this::noRules);
        section("Promise 14");
        sentence("How many STEPS the latest RUN took.", this::steps);
        section("Promise 15");
        sentence("From now on the ACT that is begun as this one in a RUN (from 0 on) makes an ERROR 7 at its end, when it comes to it without one;",
            this::failingActs);
        sentence("below 0: none does.", this::noFailingAct);
        sentence("Whether it was another one.", this::anotherAct);
        section("Promise 17");
        sentence("The line, from 1 on, of error(1)'s place in the script;", this::lines);
        sentence("0 without an ERROR.", this::noLines);
    }

    private void runs() {
        BoardScript x = board("?#<2{!1;&1;|1;a=5;z=6;}{!a+z;}+1;", 1);
        check.due("run", x.run(99), 0);
        check.outputs("the first", x, 1);
        check.due("query(0)", x.query(0), 0);
        check.due("added(0)", x.added(0), 1);
        check.due("run again", x.run(99), 0);
        check.outputs("variables are 0, no old outputs", x, 0);
        check.due("no query", x.query(0), NONE);
        check.due("no rules", x.added(0), NONE);
        check.due("the objects stay", x.at(2, 0), 1);
        check.due("without a script", new BoardScript().run(300), 0);
        StringBuilder all = new StringBuilder();
        for (char c = 'a'; c <= 'z'; c++) {
            all.append('!').append(c).append(';').append(c).append("=1;");
        }
        BoardScript letters = Check.script(all.toString());
        letters.run(300);
        letters.run(300);
        check.outputs("all 26 are 0", letters, new int[26]);
    }

    private void runsWithErrors() {
        String[] failing = {"^0;", "[^1;]", "~{^1;}{}", "~{}{^1;}", "?1{^1;}", "*1{^1;}", "A;:A{^1;}", "A;", "<21;", "!1/0;"};
        for (String text : failing) {
            check.due("run of " + text, Check.script(text).run(9), 1);
        }
        String[] good = {"?0{^1;}", "*0{^1;}", ":A{^1;}", "&1/0;", "?1{}{^1;}"};
        for (String text : good) {
            check.due("run of " + text, Check.script(text).run(9), 0);
        }
        BoardScript x = Check.script("!1;^1;");
        check.due("with the last step", x.run(2), 1);
    }

    private void runsSpent() {
        BoardScript x = Check.script("a=1;b=1;^1;");
        check.due("run(1)", x.run(1), 2);
        check.due("run(2)", x.run(2), 2);
        check.due("run(3)", x.run(3), 1);
        BoardScript y = Check.script("a=1;b=1;");
        check.due("one too few", y.run(1), 2);
        check.due("just enough", y.run(2), 0);
        check.due("run(300) without an end", Check.script("*1{}").run(300), 2);
        BoardScript most = Check.script("*a<149{a=a+1;}b=1;");
        check.due("300 are enough", most.run(300), 0);
        check.due("299 are not", most.run(299), 2);
    }

    private void wrongSteps() {
        BoardScript x = board("!7;+1;&1;|1;~{}{}[^3;]", 1);
        x.run(300);
        long[] wrong = {0, -1, 301, Long.MIN_VALUE, Long.MAX_VALUE, (1L << 32) + 1, -(1L << 32) + 1, 1L << 63};
        for (long steps : wrong) {
            check.illegal("run(" + steps + ")", () -> x.run(steps));
            check.illegal("a new one's run(" + steps + ")", () -> new BoardScript().run(steps));
        }
        check.outputs("the latest run stays", x, 7);
        check.error("the latest run stays", x, 4, 18, 3, 1);
        check.due("the latest run stays", x.steps(), 7);
        check.due("the latest run stays", x.query(1), 1);
        check.due("the latest run stays", x.added(0), 1);
        check.due("the latest run stays", x.closed(0), 12);
        check.due("the latest run stays", x.restored(), true);
        check.outOfBounds("nothing was walked", () -> x.at(2, 0));
        check.due("run(1)", x.run(1), 2);
        check.due("run(300)", x.run(300), 1);
    }

    private void queries() {
        BoardScript x = board("|z<3;|9<z+(z=0)*99;|z%5=1;?#=3{|0;}", 12);
        check.due("run", x.run(9), 0);
        int[] due = {1, 6, 11};
        for (int k = 0; k < due.length; k++) {
            check.due("the third query(" + k + ")", x.query(k), due[k]);
        }
        x.run(2);
        int[] second = {0, 10, 11};
        for (int k = 0; k < second.length; k++) {
            check.due("the second query(" + k + ")", x.query(k), second[k]);
        }
        BoardScript back = board("[+1;+1;|1;^1;]", 1);
        back.run(9);
        check.due("objects that were put back", back.query(2), 2);
    }

    private void noQueries() {
        BoardScript x = board("|z=1;", 3);
        int[] none = {-1, 0, 1, 11, 12, 31, 32, 64, Integer.MIN_VALUE, Integer.MAX_VALUE};
        for (int k : none) {
            check.due("without a run query(" + k + ")", x.query(k), NONE);
        }
        x.run(9);
        for (int k : none) {
            check.due("query(" + k + ")", x.query(k), k == 0 ? 1 : NONE);
        }
        BoardScript all = board("|1;", 12);
        all.run(9);
        check.due("the 12th", all.query(11), 11);
        check.due("a 13th", all.query(12), NONE);
        check.due("below 0", all.query(-1), NONE);
    }

    private void outputs() {
        BoardScript x = wideBoard("!@0:1;!@0:2;!@0:1+5;!-1;!@0:3;!7;");
        x.field(0, 3, (5L << 32) + (1L << 31));
        x.run(9);
        check.outputs("lowest bits", x, 0, -1, 5, -1, Integer.MIN_VALUE, 7);
        x.run(1);
        check.outputs("of the latest run", x, 0);
    }

    private void noOutputs() {
        BoardScript x = Check.ran("!1;!2;");
        int[] none = {-1, 2, 39, 40, Integer.MIN_VALUE, Integer.MAX_VALUE};
        for (int i : none) {
            check.outOfBounds("output(" + i + ")", () -> x.output(i));
        }
        check.outOfBounds("without a run", () -> Check.script("!1;").output(0));
        BoardScript many = Check.ran("*a<60{!a;a=a+1;}");
        check.due("output(39)", many.output(39), 39);
        check.outOfBounds("output(40)", () -> many.output(40));
        check.outOfBounds("output(59)", () -> many.output(59));
    }

    private void errorKinds() {
        String[] texts = {"!1/0;", "!'0;", "<21;", "^0;", ":A{A;}A;", "A;", "[]"};
        for (int i = 0; i < texts.length; i++) {
            BoardScript x = Check.script(texts[i]);
            x.failAt(0);
            x.run(9);
            check.due("error(0) of " + texts[i], x.error(0), i + 1);
        }
        check.due("the one in its place", Check.ran("~{^1;}{A;}").error(0), 6);
    }

    private void place(String text, int place) {
        check.due("error(1) of " + text, Check.ran(text).error(1), place);
    }

    private void errorPlaces() {
        place("^1;", 0);
        place("\n\n^1;", 2);
        place("[[^1;]]", 2);
        place("?1{\n^1;}", 4);
        place("?1/0{^1;}", 0);
        place("a=1;*1/0{}", 4);
        place(":A{a=1;^1;}A;", 7);
        place(":A{}a=1;B;", 8);
        place("~{^1;}{^2;}", 7);
        place("~{^1;}{}", 2);
        BoardScript x = Check.script("a=1;[b=1;[c=1;]]");
        x.failAt(1);
        x.run(9);
        check.error("the inner act's", x, 7, 9, 0, 1);
        x.failAt(0);
        x.run(9);
        check.error("the outer act's", x, 7, 4, 0, 1);
        BoardScript last = Check.script("\n".repeat(397) + "^1;");
        last.run(1);
        check.due("at the end of a full text", last.error(1), 397);
    }

    private void errorValues() {
        BoardScript x = wideBoard("^@0:2;");
        x.run(9);
        check.error("MAX", x, 4, 0, -1, 1);
        BoardScript y = wideBoard("^@0:1+7;");
        y.run(9);
        check.error("MIN+7", y, 4, 0, 7, 1);
        check.fails("^0;", 4, 0, 0);
        check.fails("~{^9;}{!1/0;}", 1, 7, 0);
        check.fails("~{^9;}{<21;}", 3, 7, 0);
        check.fails("~{^9;}{A;}", 6, 7, 0);
        BoardScript z = Check.script("~{^9;}{[]}");
        z.failAt(0);
        z.run(9);
        check.error("an act's", z, 7, 7, 0, 1);
    }

    private void noErrors() {
        noError("without a run", Check.script("^1;"));
        noError("without an error", Check.ran("a=1;"));
        BoardScript x = Check.script("^5;?1{a=1;}");
        x.run(9);
        check.error("with one", x, 4, 0, 5, 1);
        Check.read(x, "b=1;*1{}");
        x.run(9);
        noError("spent", x);
        BoardScript y = board("?#{^5;}", 0);
        y.object(1);
        y.run(9);
        check.error("with one", y, 4, 3, 5, 1);
        y.clear();
        noError("cleared", y);
        BoardScript lost = Check.script("~{^5;}{*1{}}");
        lost.run(9);
        noError("spent with one on its way", lost);
    }

    private void wrongWhats() {
        BoardScript x = Check.ran("^1;");
        int[] wrong = {-1, 3, 4, Integer.MIN_VALUE, Integer.MAX_VALUE};
        for (int what : wrong) {
            check.outOfBounds("error(" + what + ")", () -> x.error(what));
            check.outOfBounds("without an error error(" + what + ")", () -> new BoardScript().error(what));
        }
        check.due("error(2)", x.error(2), 1);
    }

    private void closings() {
        BoardScript x = Check.ran("a=1;~{~{^1;}{}}{~{}{}}");
        check.due("the inner one", x.closed(0), 6);
        check.due("the outer one", x.closed(1), 4);
        check.due("the one within the closing one", x.closed(2), 16);
        check.due("no more", x.closed(3), NONE);
        BoardScript many = Check.ran("*a<19{~{a=a+1;}{}}~{}{}~{}{}~{}{}");
        check.due("the first", many.closed(0), 6);
        check.due("the 19th", many.closed(18), 6);
        check.due("the 20th", many.closed(19), 18);
        check.due("a 21st", many.closed(20), NONE);
        BoardScript all = Check.script("*a<25{~{}{a=a+1;}}!a;");
        check.due("more than 20 are no error", all.run(300), 0);
        check.outputs("all of them run", all, 25);
        BoardScript latest = Check.script("?#{~{}{}}+1;");
        latest.run(9);
        check.due("none began", latest.closed(0), NONE);
        latest.run(9);
        check.due("one began", latest.closed(0), 3);
        latest.run(1);
        check.due("of the latest run", latest.closed(0), NONE);
        BoardScript last = Check.script("~{a=1;}{}");
        check.due("an empty one without a step left", last.run(2), 0);
        check.due("an empty one without a step left", last.closed(0), 0);
    }

    private void noClosings() {
        BoardScript x = Check.script("~{}{}");
        int[] none = {-1, 0, 1, 19, 20, Integer.MIN_VALUE, Integer.MAX_VALUE};
        for (int k : none) {
            check.due("without a run closed(" + k + ")", x.closed(k), NONE);
        }
        x.run(9);
        for (int k : none) {
            check.due("closed(" + k + ")", x.closed(k), k == 0 ? 0 : NONE);
        }
        check.due("first blocks are none", Check.ran("~{*1{}}{}").closed(0), NONE);
    }

    private void restored() {
        check.due("without a run", Check.script("[^1;]").restored(), false);
        check.due("with nothing to put back", Check.ran("[^1;]").restored(), true);
        check.due("an act that went well", Check.ran("[+1;]").restored(), false);
        check.due("an error outside of acts", Check.ran("[+1;]^1;").restored(), false);
        check.due("in a function", Check.ran(":A{[^1;]}A;").restored(), true);
        check.due("in a closing one", Check.ran("~{}{[^1;]}").restored(), true);
        BoardScript spent = Check.script("[+1;*1{}]");
        spent.run(9);
        check.due("steps spent in it", spent.restored(), false);
        BoardScript later = Check.script("~{[^1;]}{*1{}}");
        check.due("steps spent behind it", later.run(9), 2);
        check.due("steps spent behind it", later.restored(), true);
        BoardScript x = Check.script("[]");
        x.failAt(0);
        x.run(9);
        check.due("by failAt()", x.restored(), true);
        x.failAt(-1);
        x.run(9);
        check.due("of the latest run", x.restored(), false);
    }

    private void rules() {
        BoardScript x = wideBoard("&5;&0;&-1;&@0:1;a=1;&a=2;&#=2;&'0;&z;a=2;z=3;");
        x.list(1);
        check.due("run", x.run(99), 0);
        int[] due = {1, 0, 1, 1, 1, 0, 0, 1};
        for (int k = 0; k < due.length; k++) {
            check.due("added(" + k + ")", x.added(k), due[k]);
        }
        x.object(1);
        check.due("objects now", x.added(5), 1);
        x.field(0, 1, 0);
        check.due("fields now", x.added(3), 0);
        check.due("asking does no step", x.steps(), 11);
        x.run(1);
        check.due("of the latest run", x.added(0), 1);
        check.due("of the latest run", x.added(1), NONE);
        BoardScript twice = Check.ran("*a<2{&a=b;a=a+1;}b=2;");
        check.due("one that was walked twice", twice.added(0), 1);
        check.due("one that was walked twice", twice.added(1), 1);
    }

    private void failingRules() {
        BoardScript x = Check.ran("&1/a;&1%0;&@0:0;&'0;&1;");
        int[] due = {-2, -2, -2, -2, 1};
        for (int k = 0; k < due.length; k++) {
            check.due("added(" + k + ")", x.added(k), due[k]);
        }
        noError("the run had none", x);
        x.object(0);
        x.list(1);
        check.due("the object is there now", x.added(2), 0);
        check.due("the place is there now", x.added(3), 0);
        BoardScript failed = Check.ran("&1/0;^6;");
        check.due("added(0)", failed.added(0), -2);
        check.error("the run's own stays", failed, 4, 5, 6, 1);
    }

    private void noRules() {
        BoardScript x = Check.script("&0;");
        int[] none = {-1, 0, 1, 7, 8, Integer.MIN_VALUE, Integer.MAX_VALUE};
        for (int k : none) {
            check.due("without a run added(" + k + ")", x.added(k), NONE);
        }
        x.run(9);
        for (int k : none) {
            check.due("added(" + k + ")", x.added(k), k == 0 ? 0 : NONE);
        }
        BoardScript many = Check.ran("*a<9{&1;a=a+1;}");
        check.due("the 8th", many.added(7), 1);
        check.due("a 9th", many.added(8), NONE);
    }

    private void steps() {
        BoardScript x = Check.script("a=1;b=1;c=1;");
        check.due("without a run", x.steps(), 0);
        x.run(300);
        check.due("all", x.steps(), 3);
        x.run(1);
        check.due("spent", x.steps(), 1);
        Check.read(x, "*1{}");
        x.run(300);
        check.due("the most", x.steps(), 300);
        Check.read(x, "a=1;^1;b=1;");
        x.run(300);
        check.due("with an error", x.steps(), 2);
        Check.read(x, ":A{a=1;}");
        x.run(300);
        check.due("none", x.steps(), 0);
    }

    private void failingActs() {
        String text = "[!1;][!2;[!3;]!4;]A;~{}{[!6;]}:A{[!5;]}";
        int[] places = {0, 5, 9, 33, 24};
        int[][] out = {{1}, {1, 2, 3, 4}, {1, 2, 3}, {1, 2, 3, 4, 5}, {1, 2, 3, 4, 5, 6}};
        for (int act = 0; act < places.length; act++) {
            BoardScript x = Check.script(text);
            x.failAt(act);
            for (int again = 0; again < 2; again++) {
                check.due("failAt(" + act + ")", x.run(99), 1);
                check.error("failAt(" + act + ")", x, 7, places[act], 0, 1);
                check.outputs("at its end, failAt(" + act + ")", x, out[act]);
            }
        }
        BoardScript sixth = Check.script(text);
        sixth.failAt(5);
        check.due("there is no sixth", sixth.run(99), 0);
        BoardScript own = Check.script("[^5;]");
        own.failAt(0);
        own.run(9);
        check.error("one of its own", own, 4, 1, 5, 1);
        BoardScript inner = Check.script("[[^5;]]");
        inner.failAt(0);
        inner.run(9);
        check.error("one from within", inner, 4, 2, 5, 1);
        BoardScript loop = Check.script("*a<9{[a=a+1;!a;]}");
        loop.failAt(8);
        loop.run(99);
        check.error("begun as the ninth", loop, 7, 5, 0, 1);
        check.due("behind read()", Check.read(loop, "a=1;[]"), 2);
        check.due("behind read()", loop.run(9), 0);
        loop.failAt(0);
        Check.read(loop, "\n[]");
        loop.run(9);
        check.error("behind read()", loop, 7, 1, 0, 2);
        BoardScript back = board("[@0:0=1;]", 1);
        back.failAt(0);
        back.run(2);
        check.due("it puts back", back.at(0, 0), 10);
        BoardScript first = Check.script("~{[^5;]}{[!1;]}");
        first.failAt(1);
        first.run(9);
        check.error("one that failed counts, too", first, 7, 9, 0, 1);
    }

    private void noFailingAct() {
        int[] below = {-1, -2, Integer.MIN_VALUE};
        for (int act : below) {
            BoardScript x = Check.script("[][]");
            x.failAt(0);
            x.failAt(act);
            check.due("failAt(" + act + ")", x.run(9), 0);
            noError("failAt(" + act + ")", x);
        }
        check.due("at first", Check.script("[]").run(9), 0);
    }

    private void anotherAct() {
        BoardScript x = new BoardScript();
        check.due("none, as at first", x.failAt(-1), false);
        check.due("0", x.failAt(0), true);
        check.due("0 again", x.failAt(0), false);
        check.due("1", x.failAt(1), true);
        check.due("MAX", x.failAt(Integer.MAX_VALUE), true);
        check.due("MAX again", x.failAt(Integer.MAX_VALUE), false);
        check.due("none", x.failAt(-1), true);
        check.due("none again", x.failAt(-1), false);
        check.due("0", x.failAt(0), true);
        x.run(9);
        Check.read(x, "[]");
        x.run(9);
        check.due("behind runs and read()", x.failAt(0), false);
    }

    private void line(String text, int line) {
        check.due("line() of " + text.replace("\n", "\\n"), Check.ran(text).line(), line);
    }

    private void lines() {
        line("^1;", 1);
        line("^1;\n\n", 1);
        line("a=1;\n^1;", 2);
        line("\n\n\n^1;", 4);
        line("[\n\n^1;\n]", 3);
        line("~{\n}{\n\n^1;}", 4);
        line("[\n\n]\n^1;", 4);
        line(":A{\n^1;}\n\nA;", 2);
        line("\n\nA;\n", 3);
        line("\n".repeat(397) + "^1;", 398);
        BoardScript act = Check.script("\n[\n\na=1;\n]");
        act.failAt(0);
        act.run(9);
        check.due("an act's own", act.line(), 2);
        Check.read(act, "\n\n\n\n\n1");
        check.due("behind a bad text", act.line(), 2);
    }

    private void noLines() {
        check.due("a new one", new BoardScript().line(), 0);
        check.due("without a run", Check.script("\n^1;").line(), 0);
        check.due("a good run", Check.ran("\na=1;").line(), 0);
        BoardScript x = Check.script("\na=1;^1;");
        x.run(1);
        check.due("spent", x.line(), 0);
        x.run(2);
        check.due("with one", x.line(), 2);
        Check.read(x, "a=1;");
        check.due("behind a good text", x.line(), 0);
    }
}
