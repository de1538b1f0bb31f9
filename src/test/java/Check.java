import java.util.HashSet;
import java.util.NoSuchElementException;
import java.util.Set;

/** What all tests use: texts laid on the tape, answers compared, an end with exit code 1 if one was wrong. */
final class Check {
    interface Call {
        int answer();
    }

    static final int NONE = ClogVotes.NONE;

    private static final Set<String> RULES = new HashSet<>();
    private static String rule = "";
    private static int seenAhead = 0;
    private static int wrong = 0;
    private static int seen = 0;

    private Check() {
    }

    /** What follows tests this sentence of the document alone; a sentence without an answer is wrong. */
    static void rule(String sentence) {
        closeRule();
        rule = sentence;
        seenAhead = seen;
        if (!RULES.add(sentence)) {
            wrong++;
            System.out.println("told twice: " + sentence);
        }
    }

    private static void closeRule() {
        if (!rule.isEmpty() && seen == seenAhead) {
            wrong++;
            System.out.println("nothing was asked of: " + rule);
        }
    }

    static void same(String what, long got, long due) {
        seen++;
        if (got != due) {
            wrong++;
            System.out.println((rule.isEmpty() ? "" : "[" + rule + "] ") + what + " answered " + got + ", due is " + due);
        }
    }

    static void yes(String what, boolean got) {
        same(what, got ? 1 : 0, 1);
    }

    static void no(String what, boolean got) {
        same(what, got ? 1 : 0, 0);
    }

    static void missing(String what, Call call) {
        int thrown = 0;
        try {
            call.answer();
        } catch (NoSuchElementException e) {
            thrown = 1;
        }
        same(what + " throws", thrown, 1);
    }

    /** Lays a text of at most 940 bytes on the tape, behind what is there. */
    static void tell(ClogVotes x, String text) {
        int had = x.count(5);
        for (int i = 0; i < text.length(); i += 20) {
            int[] five = new int[5];
            for (int k = 0; k < 20; k++) {
                int sign = i + k < text.length() ? text.charAt(i + k) : 0;
                five[k / 4] |= sign << (24 - 8 * (k % 4));
            }
            x.feed(five[0], five[1], five[2], five[3], five[4]);
        }
        yes("the tape takes the text", x.end(had + text.length()));
    }

    static ClogVotes valley(String text) {
        ClogVotes x = new ClogVotes();
        tell(x, text);
        int lines = 0;
        for (char sign : text.toCharArray()) {
            lines += sign == ';' ? 1 : 0;
        }
        same("valley() of " + text, x.valley(), lines);
        return x;
    }

    static int book(ClogVotes x, String text, int lives) {
        tell(x, text);
        return x.book(lives);
    }

    static int sentence(ClogVotes x, String text) {
        tell(x, text);
        return x.sentence();
    }

    static int heard(ClogVotes x, int loud, int off) {
        tell(x, "" + (char) loud + (char) off);
        return x.heard();
    }

    static String cry(ClogVotes x, int q) {
        StringBuilder bytes = new StringBuilder();
        int size = x.crier(q);
        for (int i = 0; i < size; i++) {
            bytes.append((char) x.byteAt(i));
        }
        same("byteAt() behind the cry", x.byteAt(size), NONE);
        return bytes.toString();
    }

    static void sameText(String what, String got, String due) {
        if (!got.equals(due)) {
            System.out.println(what + " is '" + got + "', due is '" + due + "'");
        }
        yes(what, got.equals(due));
    }

    static String times(String text, int n) {
        return text.repeat(n);
    }

    static void finish(String test) {
        closeRule();
        String rules = RULES.isEmpty() ? "" : RULES.size() + " sentences, ";
        System.out.println(test + ": " + rules + seen + " answers, " + wrong + " not as due");
        if (wrong != 0) {
            System.exit(1);
        }
    }
}
