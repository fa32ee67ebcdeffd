/** What every test here uses: answers that are due, texts typed in, and the closing count. */
final class Check {
    interface Call {
        void go();
    }

    private int right;
    private int wrong;
    private String about = "";

    /** What the answers from here on are about; it is told with each wrong one. */
    void about(String newAbout) {
        about = newAbout.isEmpty() ? "" : "[" + newAbout + "] ";
    }

    int answers() {
        return right + wrong;
    }

    private void count(boolean fits, String complaint) {
        if (fits) {
            right++;
        } else {
            wrong++;
            System.out.println(about + complaint);
        }
    }

    void due(String what, long got, long want) {
        count(got == want, what + " answered " + got + ", due is " + want);
    }

    void due(String what, boolean got, boolean want) {
        due(what, got ? 1 : 0, want ? 1 : 0);
    }

    void outOfBounds(String what, Call call) {
        raises(what, IndexOutOfBoundsException.class, call);
    }

    void illegal(String what, Call call) {
        raises(what, IllegalArgumentException.class, call);
    }

    private void raises(String what, Class<? extends RuntimeException> due, Call call) {
        Class<?> got = null;
        try {
            call.go();
        } catch (RuntimeException e) {
            got = e.getClass();
        }
        count(got == due, what + " threw " + got + ", due is " + due);
    }

    /** What read() answers to a text. */
    void reads(String text, int want) {
        due("read of " + text.replace("\n", "\\n"), read(new BoardScript(), text), want);
    }

    /** That a text is no script by the character at this place. */
    void bad(String text, int place) {
        reads(text, -1 - place);
    }

    /** That a text in one line ends with this ERROR on an empty board. */
    void fails(String text, int kind, int place, int value) {
        BoardScript x = script(text);
        due("run of " + text, x.run(300), 1);
        error(text, x, kind, place, value, 1);
    }

    /** Types a text in and reads it, without a look at the answers. */
    static int read(BoardScript x, String text) {
        for (int i = 0; i < text.length(); i++) {
            x.unit(text.charAt(i));
        }
        return x.read();
    }

    /** A new object that has read the text. */
    static BoardScript script(String text) {
        BoardScript x = new BoardScript();
        int answer = read(x, text);
        if (answer < 0) {
            throw new IllegalStateException("no script: " + text + " " + answer);
        }
        return x;
    }

    /** A new object that has read the text and run it with all STEPS. */
    static BoardScript ran(String text) {
        BoardScript x = script(text);
        x.run(300);
        return x;
    }

    /** An EXPRESSION's lowest 32 bits, by a script that puts it out. */
    static int value(String expression) {
        return ran("!" + expression + ";").output(0);
    }

    /** The kind, place and value of the ERROR, and its line. */
    void error(String what, BoardScript x, int kind, int place, int value, int line) {
        due(what + " error(0)", x.error(0), kind);
        due(what + " error(1)", x.error(1), place);
        due(what + " error(2)", x.error(2), value);
        due(what + " line()", x.line(), line);
    }

    /** The outputs, all of them. */
    void outputs(String what, BoardScript x, int... wanted) {
        for (int i = 0; i < wanted.length; i++) {
            try {
                due(what + " output(" + i + ")", x.output(i), wanted[i]);
            } catch (IndexOutOfBoundsException e) {
                due(what + " output(" + i + ") is there", false, true);
            }
        }
        outOfBounds(what + " output(" + wanted.length + ")", () -> x.output(wanted.length));
    }

    void finish() {
        System.out.println(right + " answers right, " + wrong + " wrong");
        if (wrong != 0) {
            System.exit(1);
        }
    }
}
