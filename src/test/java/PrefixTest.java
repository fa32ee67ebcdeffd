/**
 * "The first character by which it is none", looked at by itself: every short text is walked
 * character by character, and what read() answers to a text is held against what it answers to its
 * beginnings. Nothing here knows the STATEMENTS' forms, so this finds other faults than the oracle.
 */
public final class PrefixTest {
    /** One or more of each sort of character that a script is made of, and one that it never has. */
    private static final String ALL = "ab1=;@:'!?{}*[]~^+&|<A()-#/\n ";
    private static final int LONGEST = 4;

    /** What brings an open text to an end, the soonest end first. */
    private static final String ENDS = ";}])0:={Z";
    private static final int MOST_ENDS = 40;

    private static final Check check = new Check();

    public static void main(String[] args) {
        grow("", 0, ALL, LONGEST);
        String[] deep = {
            "a=-(", "a=@'-", "a=(1<2", "?1{*a", "~{[", "~{}{?1{", "@(-'", "'(@1:", ":A{?1{", ":A{}", "[?1{}", "*1{~{}", "?a{[]}",
        };
        for (String text : deep) {
            grow(text, read(text), ALL, 3);
        }
        manyStatements();
        check.finish();
    }

    private static int read(String text) {
        return Check.read(new BoardScript(), text);
    }

    private static boolean isOpen(String text, int answer) {
        return answer == -1 - text.length();
    }

    /** All texts that begin with this one, which read() gave this answer, with so many characters more. */
    private static void grow(String text, int answer, String characters, int more) {
        if (more == 0) {
            return;
        }
        for (int i = 0; i < characters.length(); i++) {
            String longer = text + characters.charAt(i);
            int now = read(longer);
            follows(text, answer, longer, now);
            if (isOpen(longer, now)) {
                check.due(shown(longer) + " can be brought to an end", ends(longer), true);
            }
            if (now >= 0 || isOpen(longer, now)) {
                grow(longer, now, characters, more - 1);
            } else {
                check.due(shown(longer) + " stays wrong", read(longer + ";}"), now);
            }
        }
    }

    /** Only the last character can have made it wrong, or its ':' with it when that one is a letter. */
    private static void follows(String text, int before, String longer, int now) {
        boolean good = now >= 0 && now >= before;
        boolean wrongByLast = now == -1 - text.length();
        char last = longer.charAt(text.length());
        boolean wrongByFunction = now == -text.length() && text.endsWith(":") && last >= 'A' && last <= 'Z';
        check.due(shown(longer) + " follows its beginning, " + now, good || isOpen(longer, now) || wrongByLast || wrongByFunction, true);
    }

    /** Whether some end makes it a script, by always taking the first character that is not wrong. */
    private static boolean ends(String text) {
        String longer = text;
        for (int n = 0; n < MOST_ENDS; n++) {
            String next = null;
            for (int i = 0; i < ENDS.length() && next == null; i++) {
                String tried = longer + ENDS.charAt(i);
                int answer = read(tried);
                if (answer >= 0) {
                    return true;
                }
                next = isOpen(tried, answer) ? tried : null;
            }
            if (next == null) {
                return waitsForTooMuch(longer);
            }
            longer = next;
        }
        return false;
    }

    /**
     * A BLOCK too deep is wrong at its { only, a function not outside when its letter is there, not
     * sooner: what stands in the innermost open BLOCK could be brought to an end outside of it.
     */
    private static boolean waitsForTooMuch(String text) {
        int closed = 0;
        for (int i = text.length() - 1; i >= 0; i--) {
            boolean opens = "{[".indexOf(text.charAt(i)) >= 0;
            if (opens && closed == 0) {
                return ends(text.substring(i + 1));
            }
            closed += opens ? -1 : "}]".indexOf(text.charAt(i)) >= 0 ? 1 : 0;
        }
        return false;
    }

    /** Behind 100 STATEMENTS a text is good as long as no other one begins. */
    private static void manyStatements() {
        String text = "[]".repeat(99) + "[";
        check.due("the hundredth is open", read(text), -1 - text.length());
        check.due("the hundredth", read(text + "]"), 100);
        check.due("line feeds behind it", read(text + "]\n\n"), 100);
        for (int i = 0; i < ALL.length(); i++) {
            if (ALL.charAt(i) != '\n') {
                check.due("no 101st by " + ALL.charAt(i), read(text + "]" + ALL.charAt(i)), -1 - 200);
            }
        }
    }

    private static String shown(String text) {
        return text.replace("\n", "\\n");
    }
}
