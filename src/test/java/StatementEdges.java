/** The Terms' STATEMENTS: how each begins, what it takes, how many count, how deep they lie, line feeds. */
final class StatementEdges extends Edges {
    /** All that hold a BLOCK, with % for it. */
    private static final String[] HOLDERS = {"[%]", "?1{%}", "?0{}{%}", "*1{%}", "~{%}{}", "~{}{%}"};

    StatementEdges(Check check, Document document) {
        super(check, document);
    }

    @Override
    void all() {
        section("Terms");
        sentence("STATEMENTS, by their first characters (E an EXPRESSION, A an ATOM, B a BLOCK: STATEMENTS, any number):",
            this::firstCharacters);
        sentence("a=E; (a VARIABLE)", this::setVariable);
        sentence("@A:d=E; (a FIELD)", this::setField);
        sentence("'A=E; (a place of the LIST)", this::setPlace);
        sentence("!E; puts E out (the first 40)", this::putOut);
        sentence("?E{B} or ?E{B}{B}: the first BLOCK when E is not 0, else the other one", this::branch);
        sentence("*E{B}: as long as E is not 0, the BLOCK", this::loop);
        sentence("[B] an ACT", this::act);
        sentence("~{B}{B} the second one is CLOSING", this::closing);
        sentence("^E; an ERROR 4, with E", this::told);
        sentence("+E; a new OBJECT, its FIELD 0 is E", this::newObject);
        sentence("&E; a RULE (the first 8)", this::rule);
        sentence("|E; the QUERY: with z being 0, 1, .. for each OBJECT (z is what it was behind it), those for which E is not 0",
            this::query);
        sentence("<E; the LIST has so many places, all 0", this::newList);
        sentence(":F{B} the function F (A .. Z), outside of all others alone, each once; walked it does nothing",
            this::function);
        sentence("F; the function's BLOCK.", this::call);
        sentence("BLOCKS lie in one another up to two deep (an ACT's, a function's, too).", this::twoDeep);
        sentence("Line feeds may stand ahead of STATEMENTS, and behind the last one of a BLOCK, or the text.",
            this::lineFeeds);
    }

    private void firstCharacters() {
        for (char c = ' '; c <= '~'; c++) {
            boolean letter = c >= 'a' && c <= 'z' || c >= 'A' && c <= 'Z';
            boolean begins = letter || "@'!?*[~^+&|<:".indexOf(c) >= 0;
            check.bad(String.valueOf(c), begins ? 1 : 0);
        }
        for (int n = 0; n < 100; n++) {
            check.reads("[" + "A;".repeat(n) + "]", 1 + n);
        }
    }

    private void setVariable() {
        check.outputs("set", Check.ran("a=1<2;b=a+1;a=a+b;!a;!b;"), 3, 2);
        check.bad("a;", 1);
        check.bad("a=;", 2);
        check.bad("a=1", 3);
        check.bad("ab=1;", 1);
        check.bad("a==1;", 2);
    }

    private void setField() {
        BoardScript x = board("@0:0=7;@(0+1):5=1<2;@-0:3=@1:5+1;", 2);
        check.due("run", x.run(9), 0);
        check.due("at(0, 0)", x.at(0, 0), 7);
        check.due("at(1, 5)", x.at(1, 5), 1);
        check.due("at(0, 3)", x.at(0, 3), 2);
        check.due("another stays", x.at(1, 0), 11);
        check.bad("@0+1:0=1;", 2);
        check.bad("@:0=1;", 1);
        check.bad("@0:6=1;", 3);
        check.bad("@0:/=1;", 3);
        check.bad("@0:00=1;", 4);
        check.bad("@0:0;", 4);
    }

    private void setPlace() {
        check.outputs("set", Check.ran("<3;'0=2;'(1+1)=1<2;''0='2+4;!'0;!'1;!'2;"), 2, 0, 5);
        check.bad("'0+1=1;", 2);
        check.bad("'=1;", 1);
        check.bad("'0;", 2);
        check.bad("'0:0=1;", 2);
    }

    private void putOut() {
        check.outputs("40", Check.ran("*a<40{!a;a=a+1;}"),
            0, 1, 2, 3, 4, 5, 6, 7, 8, 9, 10, 11, 12, 13, 14, 15, 16, 17, 18, 19,
            20, 21, 22, 23, 24, 25, 26, 27, 28, 29, 30, 31, 32, 33, 34, 35, 36, 37, 38, 39);
        BoardScript x = Check.script("*a<45{!a;a=a+1;}!a;");
        check.due("more than 40 are no error", x.run(300), 0);
        check.due("output(39)", x.output(39), 39);
        check.outOfBounds("output(40)", () -> x.output(40));
        check.due("each is walked", x.steps(), 46 + 2 * 45 + 1);
    }

    private void branch() {
        check.outputs("1", Check.ran("?1{!1;}{!2;}!3;"), 1, 3);
        check.outputs("0", Check.ran("?0{!1;}{!2;}!3;"), 2, 3);
        check.outputs("-1", Check.ran("?-1{!1;}{!2;}!3;"), 1, 3);
        check.outputs("0 without the other one", Check.ran("?0{!1;}!3;"), 3);
        check.outputs("empty ones", Check.ran("?1{}{!2;}?0{!1;}{}!3;"), 3);
        BoardScript x = wideBoard("?@0:1{!1;}{!2;}");
        x.run(9);
        check.outputs("not 0 in its highest bit alone", x, 1);
        check.bad("?1{}{}{}", 6);
        check.bad("?{}", 1);
        check.bad("?1;", 2);
        check.bad("?1{};", 4);
    }

    private void loop() {
        check.outputs("0", Check.ran("*0{!1;}!3;"), 3);
        check.outputs("once", Check.ran("a=1;*a{!a;a=0;}!3;"), 1, 3);
        check.outputs("below 0 too", Check.ran("a=-2;*a{!a;a=a+1;}!3;"), -2, -1, 3);
        BoardScript x = wideBoard("a=@0:1;*a{!1;a=0;}");
        x.run(9);
        check.outputs("not 0 in its highest bit alone", x, 1);
        check.due("without an end", Check.script("*1{}").run(300), 2);
        check.bad("*1{}{}", 4);
        check.bad("*{}", 1);
    }

    private void act() {
        check.reads("[]", 1);
        check.due("an empty one", Check.script("[]").run(1), 0);
        check.outputs("walked as it stands", Check.ran("!1;[!2;]!3;"), 1, 2, 3);
        check.bad("[", 1);
        check.bad("[}", 1);
        check.bad("[];", 2);
        check.bad("]", 0);
    }

    private void closing() {
        check.outputs("the second one behind the first", Check.ran("~{!1;}{!2;}!3;"), 1, 2, 3);
        check.outputs("the second one in any case", Check.ran("~{^1;}{!2;}!3;"), 2);
        check.outputs("the first one not", Check.ran("^1;~{!1;}{!2;}"));
        check.bad("~{}", 3);
        check.bad("~{};", 3);
        check.bad("~1{}{}", 1);
        check.bad("~{}{}{}", 5);
    }

    private void told() {
        check.fails("^0;", 4, 0, 0);
        check.fails("^9999;", 4, 0, 9999);
        check.fails("^-1;", 4, 0, -1);
        check.fails("a=1;^a<2;", 4, 4, 1);
        check.bad("^;", 1);
    }

    private void newObject() {
        BoardScript x = wideBoard("+@0:1;+#;+-1;");
        check.due("run", x.run(9), 0);
        check.due("a long", x.at(1, 0), Long.MIN_VALUE);
        check.due("how many there were before it", x.at(2, 0), 2);
        check.due("below 0", x.at(3, 0), -1);
        for (int name = 1; name < 6; name++) {
            check.due("nothing else", x.at(1, name), 0);
        }
        BoardScript old = board("~{[+1;@0:1=5;@0:5=6;^1;]}{+2;}", 0);
        old.run(9);
        check.due("field 0 behind one that was put back", old.at(0, 0), 2);
        check.due("field 1 behind one that was put back", old.at(0, 1), 0);
        check.due("field 5 behind one that was put back", old.at(0, 5), 0);
        old.field(0, 5, 6);
        old.clear();
        Check.read(old, "+3;");
        old.run(9);
        check.due("field 5 behind clear()", old.at(0, 5), 0);
        check.bad("+;", 1);
    }

    private void rule() {
        BoardScript x = Check.script("*a<7{&1;a=a+1;}&0;&1;&1;");
        check.due("more than 8 are no error", x.run(99), 0);
        check.due("the first", x.added(0), 1);
        check.due("the 8th", x.added(7), 0);
        check.due("a 9th", x.added(8), NONE);
        check.due("it is not asked by then", Check.script("&1/0;&@9:0;").run(9), 0);
        check.bad("&;", 1);
    }

    private void found(String what, BoardScript x, int... objects) {
        for (int k = 0; k < objects.length; k++) {
            check.due(what + " query(" + k + ")", x.query(k), objects[k]);
        }
        check.due(what + " no more", x.query(objects.length), NONE);
    }

    private void query() {
        BoardScript x = board("z=77;|z=0;!z;", 3);
        x.run(9);
        found("z from 0", x, 0);
        check.outputs("z is what it was", x, 77);
        BoardScript all = board("|@z:0;", 12);
        all.run(9);
        found("all twelve", all, 0, 1, 2, 3, 4, 5, 6, 7, 8, 9, 10, 11);
        BoardScript last = board("|z=11;", 12);
        last.run(9);
        found("the twelfth", last, 11);
        BoardScript signs = board("|z-1;", 3);
        signs.run(9);
        found("below 0 and above", signs, 0, 2);
        BoardScript high = wideBoard("|@z:1;");
        high.run(9);
        found("not 0 in its highest bit alone", high, 0);
        BoardScript none = board("z=5;|1/0;!z;", 0);
        check.due("nobody is asked", none.run(9), 0);
        check.outputs("z without objects", none, 5);
        found("nobody", none);
        check.bad("|;", 1);
    }

    private void newList() {
        check.outputs("20", Check.ran("<20;'19=3;'0=4;<20;!'0;!'19;"), 0, 0);
        check.outputs("shorter, then longer", Check.ran("<3;'2=9;<2;<3;!'2;"), 0);
        check.fails("<1;<0;!'0;", 2, 6, 0);
        check.due("0 to 20", Check.script("<0;<20;<0;").run(9), 0);
        check.bad("<;", 1);
    }

    private void function() {
        StringBuilder text = new StringBuilder();
        StringBuilder calls = new StringBuilder();
        int[] due = new int[26];
        for (int i = 0; i < 26; i++) {
            char letter = (char) ('A' + i);
            text.append(':').append(letter).append("{!").append((int) letter).append(";}");
            calls.append(letter).append(';');
            due[i] = letter;
        }
        check.outputs("walked", Check.ran(text.toString()));
        check.outputs("all 26", Check.ran(text.append(calls).toString()), due);
        String[] none = {"@", "[", "a", "z", "1", ""};
        for (String letter : none) {
            check.bad(":" + letter + "{}", 1);
        }
        for (String holder : HOLDERS) {
            check.bad(holder.replace("%", ":A{}"), holder.indexOf('%'));
        }
        check.bad(":B{:A{}}", 3);
        check.bad(":A{}:A{}", 4);
        check.bad(":A{}:B{}a=1;:A{}", 12);
        check.reads(":A{}:B{}", 2);
    }

    private void call() {
        check.outputs("told behind it", Check.ran("A;A;:A{!1;!2;}"), 1, 2, 1, 2);
        check.outputs("told ahead of it", Check.ran(":A{a=a+1;}A;A;!a;"), 2);
        check.outputs("an empty one", Check.ran(":A{}A;!1;"), 1);
        check.bad("A", 1);
        check.bad("A{}", 1);
        check.bad("A1;", 1);
    }

    /** Where the BLOCK begins that a holder would open first. */
    private static int opening(String holder) {
        return holder.charAt(0) == '[' ? 0 : holder.indexOf('{');
    }

    private void twoDeep() {
        for (String first : HOLDERS) {
            for (String second : HOLDERS) {
                check.reads(first.replace("%", second.replace("%", "A;")), 3);
                check.bad(":A{" + first.replace("%", second.replace("%", "A;")) + "}",
                    3 + first.indexOf('%') + opening(second));
                for (String third : HOLDERS) {
                    check.bad(first.replace("%", second.replace("%", third)),
                        first.indexOf('%') + second.indexOf('%') + opening(third));
                }
            }
            check.reads(":A{" + first.replace("%", "A;") + "}", 3);
        }
        check.reads("[[][]][[]]", 5);
        check.outputs("what a call opens is not in it", Check.ran("[[A;]]:A{[B;]}:B{[!5;]}"), 5);
    }

    private void lineFeeds() {
        // A dot is where they may stand.
        String[] marked = {".?1{.a=(1)+@0:0;.b=1;.}.", ".[.A;.]..:A{..!1<'2;..}.", ".~{.@0:1=2;.}{.'0=-#;.}.", ".*12{.}.", ".?0{.}{.}."};
        for (String text : marked) {
            check.due(text, Check.read(new BoardScript(), text.replace(".", "")) > 0, true);
            check.due(text + " with them", Check.read(new BoardScript(), text.replace(".", "\n\n")) > 0, true);
            for (int p = 1; p < text.length(); p++) {
                if (text.charAt(p) != '.' && text.charAt(p - 1) != '.' && text.charAt(p - 1) != '}') {
                    String spoilt = (text.substring(0, p) + "\n" + text.substring(p)).replace(".", "");
                    check.bad(spoilt, text.substring(0, p).replace(".", "").length());
                }
            }
        }
        check.bad("~{}\n{}", 3);
        check.bad("?1{}\n{}", 5);
        check.reads("\n", 0);
        check.reads("\n".repeat(400), 0);
    }
}
