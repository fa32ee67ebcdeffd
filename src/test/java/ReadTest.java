/** Promises 1 to 3: a new object, unit(), read(). */
public final class ReadTest {
    private static final Check check = new Check();

    public static void main(String[] args) {
        newObject();
        units();
        fullText();
        goodTexts();
        firstBadCharacter();
        textEndsTooEarly();
        limits();
        functions();
        depths();
        lineFeeds();
        whatReadLeaves();
        check.finish();
    }

    private static void reads(String text, int want) {
        check.reads(text, want);
    }

    private static void bad(String text, int place) {
        check.bad(text, place);
    }

    private static void newObject() {
        BoardScript x = new BoardScript();
        check.due("new query(0)", x.query(0), BoardScript.NONE);
        check.due("new closed(0)", x.closed(0), BoardScript.NONE);
        check.due("new added(0)", x.added(0), BoardScript.NONE);
        check.due("new restored()", x.restored(), false);
        check.due("new steps()", x.steps(), 0);
        check.error("new", x, 0, BoardScript.NONE, 0, 0);
        check.outOfBounds("new at(0, 0)", () -> x.at(0, 0));
        check.outOfBounds("new output(0)", () -> x.output(0));
        check.due("new run(1)", x.run(1), 0);
        check.due("new steps() behind run", x.steps(), 0);
        check.due("new read()", x.read(), 0);
        check.due("new read() a place of the list", Check.read(x, "!'0;"), 1);
        check.due("new list is empty", x.run(9), 1);
        check.error("new list", x, 2, 0, 0, 1);
    }

    private static void units() {
        BoardScript x = new BoardScript();
        int[] refused = {Integer.MIN_VALUE, -1, 0, 9, 11, 13, 31, 127, 128, 256 + 'a', 65536 + 'a', Integer.MAX_VALUE};
        for (int u : refused) {
            check.due("unit(" + u + ")", x.unit(u), false);
        }
        check.due("refused units are not in the text", x.read(), 0);
        for (int u = 32; u <= 126; u++) {
            check.due("unit(" + u + ")", x.unit(u), true);
        }
        check.due("unit(10)", x.unit(10), true);
    }

    private static void fullText() {
        BoardScript x = new BoardScript();
        for (int i = 0; i < 400; i++) {
            check.due("unit " + i, x.unit('\n'), true);
        }
        check.due("unit 400", x.unit('\n'), false);
        check.due("unit 400, a wrong one", x.unit(7), false);
        check.due("400 line feeds", x.read(), 0);
        check.due("the text is gone", x.unit('\n'), true);
        BoardScript y = Check.script("a=1234;b=1;");
        check.due("nothing of an old text comes back", Check.read(y, "a=1234"), -7);
        check.due("nothing of an old text comes back", Check.read(y, "a=12"), -5);
        check.due("nothing of an old text comes back", Check.read(y, "a"), -2);
        check.due("nothing of an old text comes back", Check.read(y, ""), 0);
    }

    private static void goodTexts() {
        reads("", 0);
        reads("a=1;", 1);
        reads("z=9999;", 1);
        reads("@a:5=1;", 1);
        reads("@#:0=1;", 1);
        reads("'a=1;", 1);
        reads("!1;^1;+1;&1;|1;<1;", 6);
        reads("?1{}", 1);
        reads("?1{}{}", 1);
        reads("?1{a=1;}{b=2;c=3;}", 4);
        reads("*1{}", 1);
        reads("[]", 1);
        reads("~{}{}", 1);
        reads(":A{}:Z{}A;Z;Q;", 5);
        reads("?a=b{}", 1);
        reads("a=b=c;", 1);
        reads("a=b<c;", 1);
        reads("a=1+2-3*4/5%6<7*8;", 1);
        reads("a=1--2;", 1);
        reads("a=@b:3*'4-#;", 1);
        reads("a=@-1:0;", 1);
        reads("a=@@0:1:2;", 1);
        reads("a='''0;", 1);
        reads("?1{?2{a=3;}{b=4;}}{[c=5;]}", 6);
        reads("~{~{}{}}{[]}", 3);
        reads(":A{[a=1;]}", 3);
    }

    private static void firstBadCharacter() {
        bad(" a=1;", 0);
        bad("1", 0);
        bad("{", 0);
        bad("}", 0);
        bad("]", 0);
        bad(";", 0);
        bad("=", 0);
        bad("-", 0);
        bad("#", 0);
        bad("(", 0);
        bad("a1", 1);
        bad("ab=1;", 1);
        bad("a =1;", 1);
        bad("a= 1;", 2);
        bad("a=1 ;", 3);
        bad("a=;", 2);
        bad("a==1;", 2);
        bad("a=A;", 2);
        bad("a=1a;", 3);
        bad("a=ab;", 3);
        bad("a=12345;", 6);
        bad("a=1+;", 4);
        bad("a=1+*2;", 4);
        bad("a=+1;", 2);
        bad("a=1<2<3;", 5);
        bad("a=1=2=3;", 5);
        bad("a=1<2=3;", 5);
        bad("a=(1;", 4);
        bad("a=();", 3);
        bad("a=(1<2<3);", 6);
        bad("a=1);", 3);
        bad("a=@1;", 4);
        bad("a=@1:6;", 5);
        bad("a=@1:a;", 5);
        bad("a=@1:00;", 6);
        bad("a=@1+1:0;", 4);
        bad("a='+;", 3);
        bad("@1:6=1;", 3);
        bad("@1+1:0=1;", 2);
        bad("@:0=1;", 1);
        bad("@1:0;", 4);
        bad("'1;", 2);
        bad("'1+1=2;", 2);
        bad("'=2;", 1);
        bad("!;", 1);
        bad("!1{}", 2);
        bad("?{}", 1);
        bad("?1;", 2);
        bad("?1{a}", 4);
        bad("?1{]", 3);
        bad("?1{}{}{}", 6);
        bad("?1{};", 4);
        bad("*1{}{}", 4);
        bad("[}", 1);
        bad("[];", 2);
        bad("~1", 1);
        bad("~{}", 3);
        bad("~{};", 3);
        bad("~{}a=1;", 3);
        bad("~{}\n{}", 3);
        bad("?1\n{}", 2);
        bad("?1{}\n{}", 5);
        bad(":a{}", 1);
        bad(":1", 1);
        bad(":A;", 2);
        bad(":A{}{}", 4);
        bad("A=1;", 1);
        bad("A{}", 1);
        bad("a=1;}", 4);
        bad("a=1;b", 5);
    }

    private static void textEndsTooEarly() {
        String[] good = {"a=(-@1:0)*'2;", "@a:0='2;", "'1=2;", "?1{a=1;}{b=1;}", "*1{[a=1;]}", "~{}{}", ":A{}", "[\n]"};
        int[][] alreadyGood = {{13}, {8}, {5}, {8, 14}, {10}, {5}, {4}, {3}};
        for (int i = 0; i < good.length; i++) {
            for (int n = 1; n <= good[i].length(); n++) {
                String start = good[i].substring(0, n);
                boolean whole = false;
                for (int end : alreadyGood[i]) {
                    whole |= end == n;
                }
                int got = Check.read(new BoardScript(), start);
                check.due("read of " + start, whole ? (got > 0 ? 1 : 0) : got, whole ? 1 : -1 - n);
            }
        }
    }

    private static void limits() {
        reads("A;".repeat(100), 100);
        bad("A;".repeat(101), 200);
        bad("A;".repeat(100) + ":A{}", 200);
        bad("A;".repeat(100) + "\n\n1", 202);
        reads("A;".repeat(100) + "\n\n", 100);
        reads("[" + "A;".repeat(99) + "]", 100);
        bad("[" + "A;".repeat(100) + "]", 199);
        bad("[" + "A;".repeat(99) + "]a=1;", 200);
        bad("[" + "A;".repeat(99) + "]a", 200);
        bad("[" + "A;".repeat(98) + "[]A", 199);
        reads("a=" + "1+".repeat(198) + "1;", 1);
        reads("a=" + "-1*".repeat(132) + "1;", 1);
    }

    private static void functions() {
        bad(":A{}:A{}", 4);
        bad(":A{}:A", 4);
        bad(":A{}:", 5);
        bad(":A{}:a", 5);
        bad(":A{}\n:A{}", 5);
        bad("[:A{}]", 1);
        bad("[:A", 1);
        bad("[:", 2);
        bad("[:a{}]", 2);
        bad("?1{:B{}}", 3);
        bad("[[:A{}]]", 2);
        bad(":A{:A{}}", 3);
        bad(":A{:B{}}", 3);
        reads(":A{}:B{}", 2);
        reads("A;:A{A;}", 3);
    }

    private static void depths() {
        reads("[[]]", 2);
        bad("[[[]]]", 2);
        bad("[[[", 2);
        bad("[?1{*1{}}]", 6);
        bad("[?1{*1{", 6);
        bad("[?1{*1;", 6);
        bad("[[?1{}]]", 4);
        bad("[[~{}{}]]", 3);
        bad("[[*1+{}]]", 5);
        reads(":A{[]}", 2);
        bad(":A{[[]]}", 4);
        bad(":A{?1{?1{}}}", 8);
        reads("?1{}{?1{}{}}", 2);
        bad("?1{}{?1{}{[]}}", 10);
        reads("[][][]", 3);
        reads("a=(((1)));", 1);
        bad("a=((((1))));", 5);
        reads("a=---1;", 1);
        bad("a=----1;", 5);
        bad("a=----", 5);
        bad("a=(-(-1));", 5);
        reads("a=(-(b));", 1);
        reads("a=(1)+(1)+(1)+(1);", 1);
        reads("a=@@@0:0:0:0;", 1);
        bad("a=@@@@0:0:0:0:0;", 5);
        bad("a=''''0;", 5);
        bad("a=@(-'1):0;", 5);
        bad("a=@(-(1)):0;", 5);
        reads("a=@('1):0;", 1);
        reads("@@@@0:0:0:0:0=1;", 1);
        bad("@@@@@0:0:0:0:0:0=1;", 4);
        reads("''''0=1;", 1);
        bad("'''''0=1;", 4);
        reads("@(((#))):0=(((1)));", 1);
    }

    private static void lineFeeds() {
        reads("\n\na=1;\n\n[\n\nb=1;\n\n]\n\n", 3);
        reads("\n", 0);
        reads("[\n]", 1);
        reads("?1{\n}{\n}", 1);
        bad("a\n=1;", 1);
        bad("a=1\n;", 3);
        bad("a=\n1;", 2);
        bad(":\nA{}", 1);
        bad(":A\n{}", 2);
        bad("!1+\n1;", 3);
    }

    private static void whatReadLeaves() {
        BoardScript x = Check.script("!5;+3;|1;&1;~{}{^2;}");
        check.due("run", x.run(99), 1);
        check.due("read of a bad one", Check.read(x, "a=1"), -4);
        check.outputs("behind a bad read", x, 5);
        check.error("behind a bad read", x, 4, 16, 2, 1);
        check.due("behind a bad read query(0)", x.query(0), 0);
        check.due("behind a bad read added(0)", x.added(0), 1);
        check.due("behind a bad read closed(0)", x.closed(0), 12);
        check.due("behind a bad read steps()", x.steps(), 6);
        check.due("behind a bad read the script stays", x.run(99), 1);
        check.due("the bad text is gone", Check.read(x, "!7;"), 1);
        check.outputs("behind a good read", x);
        check.error("behind a good read", x, 0, BoardScript.NONE, 0, 0);
        check.due("behind a good read query(0)", x.query(0), BoardScript.NONE);
        check.due("behind a good read added(0)", x.added(0), BoardScript.NONE);
        check.due("behind a good read closed(0)", x.closed(0), BoardScript.NONE);
        check.due("behind a good read steps()", x.steps(), 0);
        check.due("behind a good read restored()", x.restored(), false);
        check.due("the objects stay", x.at(1, 0), 3);
        check.due("the good script runs", x.run(99), 0);
        check.outputs("the good script", x, 7);
        check.due("an empty text is a script", x.read(), 0);
        check.due("run of it", x.run(99), 0);
        check.outputs("run of it", x);
    }
}
