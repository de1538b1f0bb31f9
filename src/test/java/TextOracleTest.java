/**
 * Promises 40 to 43 once more: books by chance, each line lived by the calls of the face on a second object, and
 * sentences by chance, each judged as it is made up.
 */
public final class TextOracleTest {
    private static final String[] WAYS = {"left", "right"};
    private static final String[] WEATHERS = {"dry", "wet", "snow"};
    private static final String[] SIGNS = {"<", "=", ">"};

    private static int ones;

    public static void main(String[] args) {
        for (int run = 0; run < 600; run++) {
            Dice dice = new Dice(31 * run + 5);
            int streets = 1 + dice.below(3);
            int hands = 1 + dice.below(5);
            int questions = 1 + dice.below(3);
            String text = dice.valley(streets, hands, questions);
            ClogVotes x = Check.valley(text);
            ClogVotes twin = Check.valley(text);
            for (int i = 0; i < 2; i++) {
                compareBook(x, twin, dice, hands, questions);
                compareSentence(x, dice, streets, questions);
            }
        }
        Check.finish("TextOracleTest");
    }

    private static void compareBook(ClogVotes x, ClogVotes twin, Dice dice, int hands, int questions) {
        StringBuilder text = new StringBuilder();
        int lines = dice.below(12);
        int wrong = Check.NONE;
        int why = 0;
        int ahead = lines;
        for (int i = 0; i < lines; i++) {
            int got = line(twin, text, dice, hands, questions, wrong == Check.NONE);
            if (got != 0 && wrong == Check.NONE) {
                wrong = i;
                why = got;
                ahead = i;
            }
        }
        int day = x.now(0);
        Check.same("book(0) of " + text, Check.book(x, text.toString(), 0), wrong);
        Check.same("now(0) stays", x.now(0), day);
        told(x, twin, why, ahead);
        Check.same("book(1) of " + text, Check.book(x, text.toString(), 1), wrong);
        told(x, twin, why, ahead);
        for (int what = 0; what < 8; what++) {
            Check.same("now(" + what + ") behind " + text, x.now(what), twin.now(what));
        }
        for (int h = 0; h < hands; h++) {
            for (int what = 0; what < 7; what++) {
                Check.same("hand(" + h + ", " + what + ") behind " + text, x.hand(h, what), twin.hand(h, what));
            }
        }
    }

    private static void told(ClogVotes x, ClogVotes twin, int why, int ahead) {
        Check.same("told(0)", x.told(0), why);
        Check.same("told(1)", x.told(1), ahead);
        Check.same("told(2)", x.told(2), twin.now(0));
        Check.same("told(3)", x.told(3), twin.now(5));
    }

    /** Writes a line and, while none was wrong, lives it; why it is wrong, or 0. */
    private static int line(ClogVotes twin, StringBuilder text, Dice dice, int hands, int questions, boolean lives) {
        int h = dice.below(hands);
        int q = dice.below(questions);
        int w = dice.below(2);
        int n = 1 + dice.below(4);
        String hand = "h" + (char) ('a' + h);
        String question = "q" + (char) ('a' + q);
        int k = dice.below(8);
        int why = 0;
        switch (k) {
            case 0:
                text.append(hand + " buys " + n);
                why = lives ? twin.buy(h, n) : 0;
                break;
            case 1:
                text.append(hand + " strikes");
                why = lives ? twin.strike(h) : 0;
                break;
            case 2:
                text.append(hand + "\nworks");
                why = lives ? twin.work(h) : 0;
                break;
            case 3:
                text.append(hand + " swayed " + question + " " + WAYS[w]);
                why = lives ? twin.sway(h, q, w) : 0;
                break;
            case 4:
                text.append("put " + question);
                why = lives ? twin.put(q) : 0;
                break;
            case 5:
                text.append("lay " + WAYS[w] + " " + n);
                why = lives ? twin.lay(w, n) : 0;
                break;
            case 6:
                text.append(WEATHERS[n % 3]);
                why = lives ? twin.weather(n % 3) : 0;
                break;
            default:
                n = n == 4 ? 60 : n;
                text.append("day " + n);
                boolean fewer = 400 - twin.now(0) < n;
                why = lives ? fewer ? 1 : twin.days(n) - n : 0;
                break;
        }
        text.append(dice.once(2) ? ";" : " ; ");
        return why == 0 ? 0 : 10 * k + why;
    }

    private static void compareSentence(ClogVotes x, Dice dice, int streets, int questions) {
        ones = 0;
        StringBuilder text = new StringBuilder();
        int due = cond(x, text, dice, streets, questions, 1);
        if (ones > 20 || text.length() > 200) {
            return;
        }
        Check.same("sentence() of " + text, Check.sentence(x, text.toString()), ones);
        Check.same("said(NONE) of " + text, x.said(Check.NONE), Integer.bitCount(due));
        int k = 0;
        for (int h = 0; h < x.count(1); h++) {
            if ((due >> h) % 2 == 1) {
                Check.same("said(" + k + ") of " + text, x.said(k), h);
                k++;
            }
        }
        Check.same("said(" + k + ") of " + text, x.said(k), Check.NONE);
    }

    private static int cond(ClogVotes x, StringBuilder text, Dice dice, int streets, int questions, int depth) {
        int due = all(x, text, dice, streets, questions, depth);
        while (dice.once(3)) {
            text.append(" or ");
            due |= all(x, text, dice, streets, questions, depth);
        }
        return due;
    }

    private static int all(ClogVotes x, StringBuilder text, Dice dice, int streets, int questions, int depth) {
        int due = one(x, text, dice, streets, questions, depth);
        while (dice.once(3)) {
            text.append(" and ");
            due &= one(x, text, dice, streets, questions, depth);
        }
        return due;
    }

    private static int one(ClogVotes x, StringBuilder text, Dice dice, int streets, int questions, int depth) {
        ones++;
        int k = depth >= 8 ? 2 + dice.below(8) : dice.below(10);
        if (k == 0) {
            text.append("not ");
            int other = one(x, text, dice, streets, questions, depth + 1);
            return (1 << x.count(1)) - 1 - other;
        }
        if (k == 1) {
            text.append("(");
            int other = cond(x, text, dice, streets, questions, depth + 1);
            text.append(")");
            return other;
        }
        int street = dice.below(streets);
        int question = dice.below(questions);
        int sign = dice.below(3);
        int number = dice.below(25);
        switch (k) {
            case 2: text.append("silent"); break;
            case 3: text.append("child"); break;
            case 4: text.append("of s").append((char) ('a' + street)); break;
            case 5: text.append("for q").append((char) ('a' + question)); break;
            case 6: text.append("against q").append((char) ('a' + question)); break;
            default: text.append(k == 7 ? "irons" : k == 8 ? "coin " : "number").append(SIGNS[sign]).append(number); break;
        }
        int due = 0;
        for (int h = 0; h < x.count(1); h++) {
            int has = k == 7 ? x.hand(h, 1) : k == 8 ? x.hand(h, 2) : h;
            boolean holds = k == 2 && x.hand(h, 4) == 1 || k == 3 && x.hand(h, 3) == 1
                    || k == 4 && x.hand(h, 0) == street || k == 5 && x.wants(h, question) == 0
                    || k == 6 && x.wants(h, question) == 1
                    || k > 6 && (sign == 0 ? has < number : sign == 1 ? has == number : has > number);
            due += holds ? 1 << h : 0;
        }
        return due;
    }
}
