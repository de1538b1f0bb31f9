import java.util.ArrayList;
import java.util.List;
import java.util.Map;

/** Promises 4, 5, 40, 42 once more: texts by chance, some tokens of them changed, against a second reader. */
public final class FaultOracleTest {
    private static final String[] ANY = {"street", "hand", "child", "question", "wants", "left", "right", "grants", "sand", "echo",
        "price", "wage", "buys", "strikes", "works", "swayed", "put", "lay", "dry", "wet", "snow", "day", "or", "and", "not",
        "silent", "of", "for", "against", "irons", "coin", "number", ";", ";", ";", "<", "=", ">", "(", ")", ".", "sa", "sb", "ha",
        "hb", "hc", "qa", "qb", "sf", "hk", "qf", "abcdefgh", "abcdefghi", "a1", "1a", "0", "1", "9", "10", "20", "21", "60", "61",
        "99", "100", "999", "1000", "?", "A", "" + (char) 0, "" + (char) 200, "\t"};

    private static int faults = 0;
    private static int fine = 0;

    public static void main(String[] args) {
        for (int run = 0; run < 3000; run++) {
            Dice dice = new Dice(run * 104729L + 7);
            String land = dice.valley(1 + dice.below(5), dice.below(11), dice.below(6));
            valley(laid(changed(tokens(land), dice), dice, 940));
            ClogVotes x = Check.valley(land);
            Map<String, String> names = TextReader.namesOf(land);
            book(x, laid(changed(bookTokens(dice), dice), dice, 440), names);
            sentence(x, laid(changed(sentenceTokens(dice), dice), dice, 230), names);
        }
        Check.yes("there were texts with faults", faults > 3000);
        Check.yes("there were texts without", fine > 2000);
        Check.finish("FaultOracleTest");
    }

    private static void compare(ClogVotes x, String text, int got, TextReader due, int ahead, int counted) {
        faults += due.kind != 0 ? 1 : 0;
        fine += due.kind == 0 ? 1 : 0;
        Check.same("fault() of " + text, x.fault(), due.kind);
        Check.same("what is answered to " + text, got, due.kind != 0 ? -ahead - due.place : counted);
    }

    private static void valley(String text) {
        ClogVotes x = new ClogVotes();
        Check.tell(x, text);
        TextReader due = TextReader.ofValley(text);
        compare(x, text, x.valley(), due, 1, due.found);
    }

    private static void book(ClogVotes x, String text, Map<String, String> names) {
        Check.tell(x, text);
        TextReader due = TextReader.ofBook(text, names);
        int got = x.book(0);
        boolean whole = due.kind == 0 && got >= Check.NONE;
        compare(x, text, whole ? 0 : got, due, 2, 0);
    }

    private static void sentence(ClogVotes x, String text, Map<String, String> names) {
        Check.tell(x, text);
        TextReader due = TextReader.ofSentence(text, names);
        compare(x, text, x.sentence(), due, 1, due.found);
    }

    private static List<String> tokens(String text) {
        List<String> tokens = new ArrayList<>();
        for (String token : text.replace(";", " ; ").trim().split("[ \n]+")) {
            if (!token.isEmpty()) {
                tokens.add(token);
            }
        }
        return tokens;
    }

    private static List<String> bookTokens(Dice dice) {
        String[] lines = {"ha buys 1;", "hb strikes;", "hc works;", "ha swayed qa left;", "put qa;", "put qb;", "lay left 9;", "dry;",
            "wet;", "snow;", "day 9;"};
        StringBuilder text = new StringBuilder();
        int many = dice.once(4) ? 39 + dice.below(3) : dice.below(9);
        for (int i = 0; i < many; i++) {
            text.append(lines[many > 20 ? 7 + dice.below(3) : dice.below(lines.length)]);
        }
        return tokens(text.toString());
    }

    private static List<String> sentenceTokens(Dice dice) {
        List<String> tokens = new ArrayList<>();
        int many = dice.once(3) ? 18 + dice.below(4) : 1 + dice.below(6);
        addCond(tokens, dice, many, 0);
        return tokens;
    }

    private static void addCond(List<String> tokens, Dice dice, int many, int depth) {
        String[] leaves = {"silent", "child", "of sa", "for qa", "against qb", "irons < 5", "coin = 20", "number > 1"};
        for (int i = 0; i < many; i++) {
            if (i > 0) {
                tokens.add(dice.once(2) ? "or" : "and");
            }
            for (int nots = dice.once(3) ? dice.below(4) : 0; nots > 0; nots--) {
                tokens.add("not");
            }
            if (depth < 9 && dice.once(3)) {
                tokens.add("(");
                addCond(tokens, dice, 1 + dice.below(2), depth + 1);
                tokens.add(")");
            } else {
                tokens.addAll(tokens(leaves[many > 6 ? dice.below(2) : dice.below(leaves.length)]));
            }
        }
    }

    private static List<String> changed(List<String> tokens, Dice dice) {
        int changes = dice.once(3) ? 0 : 1 + dice.below(3);
        for (int i = 0; i < changes && !tokens.isEmpty(); i++) {
            int at = dice.below(tokens.size());
            int how = dice.below(5);
            if (how == 0) {
                tokens.remove(at);
            } else if (how == 1) {
                tokens.add(at, ANY[dice.below(ANY.length)]);
            } else if (how == 2) {
                tokens.add(at, tokens.get(dice.below(tokens.size())));
            } else if (how == 3) {
                tokens.subList(at, tokens.size()).clear();
            } else {
                tokens.set(at, ANY[dice.below(ANY.length)]);
            }
        }
        return tokens;
    }

    /** The tokens as a text, with blanks where they must be and elsewhere by chance; sometimes stretched over its most. */
    private static String laid(List<String> tokens, Dice dice, int most) {
        StringBuilder text = new StringBuilder();
        int wide = dice.once(4) ? 1 + dice.below(12) : 0;
        for (String token : tokens) {
            boolean needed = text.length() > 0 && letterOrDigit(text.charAt(text.length() - 1)) && letterOrDigit(token.charAt(0));
            int blanks = (needed && !dice.once(200) ? 1 : 0) + (dice.once(6) ? 1 : 0) + (wide > 0 ? dice.below(wide) : 0);
            for (int i = 0; i < blanks; i++) {
                text.append(dice.once(4) ? '\n' : ' ');
            }
            text.append(token);
        }
        if (dice.once(5)) {
            text.append(Check.times(" ", dice.below(30)));
        }
        return text.length() > most ? text.substring(0, most) : text.toString();
    }

    private static boolean letterOrDigit(char sign) {
        return sign >= 'a' && sign <= 'z' || sign >= '0' && sign <= '9';
    }
}
