/** What every test here uses: answers that are due, texts typed in, and the closing count. */
final class Check {
    interface Call {
        void go();
    }

    private int right;
    private int wrong;

    void due(String what, long got, long want) {
        if (got == want) {
            right++;
        } else {
            wrong++;
            System.out.println(what + " answered " + got + ", due is " + want);
        }
    }

    void due(String what, boolean got, boolean want) {
        due(what, got ? 1 : 0, want ? 1 : 0);
    }

    void outOfBounds(String what, Call call) {
        raises(what, IndexOutOfBoundsException.class, call);
    }

    void illegal(String what, Call call) {
        raises(what, IllegalArgumentException.class, call);
    }

    private void raises(String what, Class<? extends RuntimeException> due, Call call) {
        Class<?> got = null;
        try {
            call.go();
        } catch (RuntimeException e) {
            got = e.getClass();
        }
        if (got == due) {
            right++;
        } else {
            wrong++;
            System.out.println(what + " threw " + got + ", due is " + due);
        }
    }

    /** Types a text in and reads it, without a look at the answers. */
    static int read(BoardScript x, String text) {
        for (int i = 0; i < text.length(); i++) {
            x.unit(text.charAt(i));
        }
        return x.read();
    }

    /** A new object that has read the text. */
    static BoardScript script(String text) {
        BoardScript x = new BoardScript();
        int answer = read(x, text);
        if (answer < 0) {
            throw new IllegalStateException("no script: " + text + " " + answer);
        }
        return x;
    }

    /** A new object that has read the text and run it with all STEPS. */
    static BoardScript ran(String text) {
        BoardScript x = script(text);
        x.run(300);
        return x;
    }

    /** An EXPRESSION's lowest 32 bits, by a script that puts it out. */
    static int value(String expression) {
        return ran("!" + expression + ";").output(0);
    }

    /** The kind, place and value of the ERROR, and its line. */
    void error(String what, BoardScript x, int kind, int place, int value, int line) {
        due(what + " error(0)", x.error(0), kind);
        due(what + " error(1)", x.error(1), place);
        due(what + " error(2)", x.error(2), value);
        due(what + " line()", x.line(), line);
    }

    /** The outputs, all of them. */
    void outputs(String what, BoardScript x, int... wanted) {
        for (int i = 0; i < wanted.length; i++) {
            try {
                due(what + " output(" + i + ")", x.output(i), wanted[i]);
            } catch (IndexOutOfBoundsException e) {
                due(what + " output(" + i + ") is there", false, true);
            }
        }
        outOfBounds(what + " output(" + wanted.length + ")", () -> x.output(wanted.length));
    }

    void finish() {
        System.out.println(right + " answers right, " + wrong + " wrong");
        if (wrong != 0) {
            System.exit(1);
        }
    }
}
