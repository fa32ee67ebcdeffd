/** What the tests of the document's edges share: each is for one sentence, which it names. */
abstract class Edges {
    static final int NONE = BoardScript.NONE;

    final Check check;
    private final Document document;
    private String section = "";

    /** The document may be null; then no sentence is looked for in it. */
    Edges(Check check, Document document) {
        this.check = check;
        this.document = document;
    }

    abstract void all();

    final void section(String name) {
        section = name;
    }

    /** The answers that this test asks for are what the sentence promises; what it throws is its own fault. */
    final void sentence(String words, Runnable test) {
        check.about(section + ": " + words);
        if (document != null && !document.name(section, words)) {
            check.due("stands in the document", false, true);
        }
        int before = check.answers();
        try {
            test.run();
        } catch (RuntimeException e) {
            check.due("its test threw " + e, false, true);
        }
        check.due("has a test", check.answers() > before, true);
        check.about("");
    }

    /** Words of the document that promise nothing, so that there is nothing to test. */
    final void free(String words) {
        check.about(section + ": " + words);
        check.due("stands in the document", document == null || document.name(section, words), true);
        check.about("");
    }

    /** An object with one OBJECT on it, its FIELDS 1 and 2 the least and the greatest long. */
    static BoardScript wideBoard(String text) {
        BoardScript x = Check.script(text);
        x.object(0);
        x.field(0, 1, Long.MIN_VALUE);
        x.field(0, 2, Long.MAX_VALUE);
        return x;
    }

    /** All 64 bits of an EXPRESSION over wideBoard(). */
    static long wide(String expression) {
        BoardScript x = wideBoard("+" + expression + ";");
        x.run(300);
        return x.at(1, 0);
    }

    /** An object with so many OBJECTS, their FIELD 0 being 10, 11 and so on. */
    static BoardScript board(String text, int objects) {
        BoardScript x = Check.script(text);
        for (int i = 0; i < objects; i++) {
            x.object(10 + i);
        }
        return x;
    }

    final void value(String expression, int want) {
        check.due(expression, Check.value(expression), want);
    }

    final void noError(String what, BoardScript x) {
        check.error(what, x, 0, NONE, 0, 0);
    }
}
