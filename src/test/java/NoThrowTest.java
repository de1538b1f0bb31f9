import java.util.NoSuchElementException;

/** All promises: no call throws but what the document names, for any numbers and texts, in any state. */
public final class NoThrowTest {
    private static final String[] WORDS = {"street", "hand", "child", "question", "wants", "left", "right", "grants", "sand",
        "echo", "price", "wage", "buys", "strikes", "works", "swayed", "put", "lay", "dry", "wet", "snow", "day", "or",
        "and", "not", "silent", "of", "for", "against", "irons", "coin", "number", ";", "<", "=", ">", "(", ")", ".",
        "sa", "sb", "ha", "hb", "hc", "qa", "qb", "0", "1", "7", "20", "99", "1000", "a1", "~", "(", "not", ";", ";"};
    private static final int[] ENDS = {Integer.MIN_VALUE, -1000, -2, -1, 0, 1, 2, 3, 4, 5, 7, 9, 10, 11, 19, 20, 21, 60, 61,
        1 << 20, Integer.MAX_VALUE};

    public static void main(String[] args) {
        for (int run = 0; run < 3000; run++) {
            Dice dice = new Dice(run * 7919L + 1);
            ClogVotes x = new ClogVotes();
            for (int call = 0; call < 50; call++) {
                anyCall(x, dice);
            }
        }
        Check.same("runs", 1, 1);
        Check.finish("NoThrowTest");
    }

    private static void anyCall(ClogVotes x, Dice dice) {
        int text = dice.below(12);
        if (text == 0) {
            tellTokens(x, dice);
        } else if (text == 1) {
            x.end(0);
            Check.tell(x, dice.valley(1 + dice.below(5), dice.below(11), dice.below(6)));
            x.valley();
        }
        int number = dice.below(52);
        int a = number(dice);
        int b = number(dice);
        int c = number(dice);
        try {
            answer(x, number, a, b, c);
        } catch (NoSuchElementException e) {
            boolean told = number == 50 && !fitsHand(x, a, b) || number == 51 && !fitsQuestion(x, a, b);
            Check.yes("call " + number + " may throw", told);
        } catch (RuntimeException e) {
            Check.yes("call " + number + " of " + a + ", " + b + ", " + c + " threw " + e, false);
        }
    }

    private static boolean fitsHand(ClogVotes x, int h, int what) {
        return h >= 0 && h < x.count(1) && what >= 0 && what <= 6;
    }

    private static boolean fitsQuestion(ClogVotes x, int q, int what) {
        return q >= 0 && q < x.count(2) && what >= 0 && what <= 4;
    }

    private static int number(Dice dice) {
        return dice.once(4) ? ENDS[dice.below(ENDS.length)] : dice.below(6);
    }

    private static void tellTokens(ClogVotes x, Dice dice) {
        StringBuilder text = new StringBuilder();
        int tokens = dice.below(60);
        for (int i = 0; i < tokens; i++) {
            text.append(WORDS[dice.below(WORDS.length)]).append(dice.once(5) ? "\n" : " ");
        }
        x.end(0);
        Check.tell(x, text.toString());
    }

    private static int answer(ClogVotes x, int number, int a, int b, int c) {
        switch (number) {
            case 0: return x.feed(a, b, c, a, b);
            case 1: return x.end(a) ? 1 : 0;
            case 2: return x.valley();
            case 3: return x.fault();
            case 4: return x.wants(a, b);
            case 5: return x.grants(a, b);
            case 6: return x.way(a, b);
            case 7: return x.now(a);
            case 8: return x.buy(a, b);
            case 9: return x.strike(a);
            case 10: return x.work(a);
            case 11: return x.sway(a, b, c);
            case 12: return x.put(a);
            case 13: return x.lay(a, b);
            case 14: return x.weather(a);
            case 15: return x.days(a);
            case 16: return x.undo();
            case 17: return x.noise(a, b);
            case 18: return x.would(a);
            case 19: return x.win(a);
            case 20: return x.won();
            case 21: return x.winStreets(a);
            case 22: return x.wonStreets();
            case 23: return x.sanded(a);
            case 24: return x.bought(a);
            case 25: return x.buys(a);
            case 26: return x.agenda();
            case 27: return x.agendaAt(a);
            case 28: return x.power(a);
            case 29: return x.heard();
            case 30: return x.surely();
            case 31: return x.ask();
            case 32: return x.crier(a);
            case 33: return x.byteAt(a);
            case 34: return x.drawn(a, b);
            case 35: return x.odds(a, b, c);
            case 36: return x.book(a);
            case 37: return x.told(a);
            case 38: return x.sentence();
            case 39: return x.said(a);
            case 40: return x.image(a) ? 1 : 0;
            case 41: return x.restore(a) ? 1 : 0;
            case 42: return x.count(a);
            case 43: return x.book(1);
            case 44: return x.book(0);
            case 45: return x.sentence();
            case 46: return x.days(60);
            case 47: return x.drawn(60, a);
            case 48: return x.said(-1);
            case 49: return x.end(2) ? x.heard() : 0;
            case 50: return x.hand(a, b);
            default: return x.question(a, b);
        }
    }
}
