import java.util.ArrayList;
import java.util.Arrays;
import java.util.HashMap;
import java.util.HashSet;
import java.util.List;
import java.util.Map;
import java.util.Set;

/**
 * A second reader of texts, made otherwise than the class: all tokens first, lines by patterns, sentences by a stack.
 * It tells the kind and the place of the first fault, or how many lines or ones there are.
 */
final class TextReader {
    private static final Set<String> TOLD = new HashSet<>(Arrays.asList(("street hand child question wants left right grants "
            + "sand echo price wage buys strikes works swayed put lay dry wet snow day or and not silent of for against irons "
            + "coin number").split(" ")));
    private static final Map<String, String> VALLEY_LINES = new HashMap<>();
    private static final Map<String, String> BOOK_LINES = new HashMap<>();

    static {
        VALLEY_LINES.put("street", "new:s");
        VALLEY_LINES.put("hand", "new:h old:s 0-20 0-99 child?");
        VALLEY_LINES.put("question", "new:q");
        VALLEY_LINES.put("wants", "old:h pair:q way");
        VALLEY_LINES.put("grants", "old:q pair:s 1-9");
        VALLEY_LINES.put("sand", "once 0-20");
        VALLEY_LINES.put("echo", "once 0-99");
        VALLEY_LINES.put("price", "1-9");
        VALLEY_LINES.put("wage", "0-9");
        BOOK_LINES.put("buys", "1-20");
        BOOK_LINES.put("strikes", "");
        BOOK_LINES.put("works", "");
        BOOK_LINES.put("swayed", "old:q way");
        BOOK_LINES.put("put", "old:q");
        BOOK_LINES.put("lay", "way 0-20");
        BOOK_LINES.put("dry", "");
        BOOK_LINES.put("wet", "");
        BOOK_LINES.put("snow", "");
        BOOK_LINES.put("day", "1-60");
    }

    private final List<String> tokens = new ArrayList<>();
    private final List<Integer> places = new ArrayList<>();
    private final boolean tooLong;
    private final Map<String, String> sorts = new HashMap<>();
    private final Set<String> told = new HashSet<>();
    private int at;

    int kind;
    int place;
    int found;

    private TextReader(String text, int most) {
        tooLong = text.length() > most;
        int i = 0;
        while (i < text.length() && i < most) {
            char sign = text.charAt(i);
            if (sign == ' ' || sign == '\n') {
                i++;
                continue;
            }
            int end = i;
            while (end < text.length() && Character.toString(text.charAt(end)).matches("[a-z0-9]")) {
                end++;
            }
            end = Math.max(end, i + 1);
            String token = text.substring(i, end);
            tokens.add(token.matches("[a-z]{1,8}|[0-9]{1,3}|[;<=>().]") ? token : "?");
            places.add(i);
            i = end;
        }
        tokens.add("");
        places.add(Math.min(text.length(), most));
    }

    /** The sorts of the names of a valley without a fault: s, h, q. */
    static Map<String, String> namesOf(String valley) {
        TextReader reader = new TextReader(valley, 900);
        reader.readValley();
        return reader.sorts;
    }

    static TextReader ofValley(String text) {
        TextReader reader = new TextReader(text, 900);
        reader.readValley();
        return reader;
    }

    static TextReader ofBook(String text, Map<String, String> names) {
        TextReader reader = new TextReader(text, 400);
        reader.sorts.putAll(names);
        reader.readBook();
        return reader;
    }

    static TextReader ofSentence(String text, Map<String, String> names) {
        TextReader reader = new TextReader(text, 200);
        reader.sorts.putAll(names);
        reader.readSentence();
        return reader;
    }

    private String token() {
        return tokens.get(at);
    }

    private boolean fault(int which) {
        if (kind == 0) {
            kind = which;
            place = places.get(at);
        }
        return false;
    }

    private boolean isName() {
        return token().matches("[a-z]+") && !TOLD.contains(token());
    }

    private long many(String sort) {
        return sorts.values().stream().filter(sort::equals).count();
    }

    private void readValley() {
        while (!token().isEmpty()) {
            String first = token();
            String pattern = VALLEY_LINES.get(first);
            String sort = first.substring(0, 1);
            if (pattern == null) {
                fault(1);
            } else if (pattern.startsWith("new") && many(sort) >= (first.equals("hand") ? 10 : 5)) {
                fault(4);
            } else if ((first.equals("price") || first.equals("wage")) && !told.add(first)) {
                fault(3);
            }
            if (kind != 0 || !endsLine(first, pattern)) {
                return;
            }
        }
        if (tooLong) {
            fault(1);
        }
    }

    private void readBook() {
        while (!token().isEmpty()) {
            boolean byHand = isName();
            boolean plain = BOOK_LINES.containsKey(token()) && !token().matches("buys|strikes|works|swayed");
            if (!byHand && !plain) {
                fault(1);
            } else if (byHand && !"h".equals(sorts.get(token()))) {
                fault(3);
            } else if (found >= 40) {
                fault(4);
            }
            if (kind != 0) {
                return;
            }
            at += byHand ? 1 : 0;
            if (byHand && !token().matches("buys|strikes|works|swayed")) {
                fault(1);
                return;
            }
            if (!endsLine(token(), BOOK_LINES.get(token()))) {
                return;
            }
        }
        if (tooLong) {
            fault(1);
        }
    }

    /** Reads what follows a line's word, to its end. */
    private boolean endsLine(String word, String pattern) {
        at++;
        String line = word;
        for (String part : pattern.isEmpty() ? new String[0] : pattern.split(" ")) {
            if (!fits(line, part)) {
                return false;
            }
            line += " " + token();
            at += part.equals("child?") && !token().equals("child") ? 0 : 1;
        }
        if (!token().equals(";")) {
            return fault(1);
        }
        at++;
        found++;
        return true;
    }

    private boolean fits(String line, String part) {
        if (part.equals("child?")) {
            return true;
        }
        if (part.equals("way") || part.equals("once")) {
            if (!token().matches("left|right")) {
                return fault(1);
            }
            return part.equals("way") || told.add(line + " " + token()) || fault(3);
        }
        if (part.matches("[0-9].*")) {
            if (!token().matches("[0-9]+")) {
                return fault(1);
            }
            int number = Integer.parseInt(token());
            String[] ends = part.split("-");
            return number >= Integer.parseInt(ends[0]) && number <= Integer.parseInt(ends[1]) || fault(2);
        }
        if (!isName()) {
            return fault(1);
        }
        String sort = part.substring(part.length() - 1);
        if (part.startsWith("new")) {
            return sorts.putIfAbsent(token(), sort) == null || fault(3);
        }
        if (!sort.equals(sorts.get(token()))) {
            return fault(3);
        }
        return part.startsWith("old") || told.add(line + " " + token()) || fault(3);
    }

    private void readSentence() {
        StringBuilder open = new StringBuilder();
        do {
            while (startsWithin(open)) {
                at++;
            }
            if (kind != 0 || !endsOne()) {
                return;
            }
            close(open);
        } while (joins());
        if (!token().isEmpty() || open.length() > 0 || tooLong) {
            fault(1);
        }
    }

    /** Whether a not or a bracket begins here; the ones that begin are counted and may be too many. */
    private boolean startsWithin(StringBuilder open) {
        if (!token().matches("not|\\(|silent|child|of|for|against|irons|coin|number")) {
            return fault(1);
        }
        if (found == 20 || open.length() == 8) {
            return fault(4);
        }
        found++;
        boolean within = token().matches("not|\\(");
        open.append(within ? token().charAt(0) : "");
        return within;
    }

    private boolean endsOne() {
        String first = token();
        at++;
        if (first.matches("silent|child")) {
            return true;
        }
        if (first.matches("of|for|against")) {
            if (!fits("", "old:" + (first.equals("of") ? "s" : "q"))) {
                return false;
            }
        } else {
            if (!token().matches("[<=>]")) {
                return fault(1);
            }
            at++;
            if (!token().matches("[0-9]+")) {
                return fault(1);
            }
        }
        at++;
        return true;
    }

    /** What is behind a one: the nots end with it, and brackets that close, and the nots ahead of those. */
    private void close(StringBuilder open) {
        dropNots(open);
        while (token().equals(")") && open.length() > 0) {
            open.setLength(open.length() - 1);
            at++;
            dropNots(open);
        }
    }

    private static void dropNots(StringBuilder open) {
        while (open.length() > 0 && open.charAt(open.length() - 1) == 'n') {
            open.setLength(open.length() - 1);
        }
    }

    private boolean joins() {
        boolean joined = token().matches("or|and");
        at += joined ? 1 : 0;
        return joined;
    }
}
