import java.util.NoSuchElementException;

/** All promises once more: runs of calls by chance, all answers against the model's. */
public final class RunsOracleTest {
    private static final String[] PARTS = {"silent", "child", "of sa", "for qa", "against qb", "irons<5", "coin=20", "number>1",
        "not child", "(silent or of sa)", "not (child and number<4)"};
    private static final String[] LINES = {"ha buys 1;", "hb buys 2;", "ha strikes;", "hb strikes;", "ha works;", "hb works;",
        "ha swayed qa left;", "hb swayed qb right;", "put qa;", "put qb;", "lay left 2;", "lay right 3;", "dry;", "wet;", "snow;",
        "day 1;", "day 1;", "day 60;"};

    private static ClogVotes x;
    private static Model m;
    private static Dice dice;
    private static int calls;

    public static void main(String[] args) {
        for (int run = 0; run < 600; run++) {
            dice = new Dice(run * 15485863L + 11);
            x = new ClogVotes();
            m = new Model();
            calls = 0;
            while (calls < 380) {
                step();
            }
        }
        Check.finish("RunsOracleTest");
    }

    private static void tell(String text) {
        calls += text.length() / 20 + 3;
        Check.tell(x, text);
        m.tape.append(text);
    }

    private static void step() {
        int kind = dice.below(30);
        if (kind == 0 || m.so.hands.isEmpty() && dice.once(2)) {
            x.end(0);
            m.tape.setLength(0);
            tell(dice.valley(1 + dice.below(5), dice.below(7), dice.below(6)) + (dice.once(6) ? "wage " : ""));
            same("valley()", x.valley(), m.valley());
        } else if (kind == 1) {
            tell(joined(LINES, 1 + dice.below(9), "") + (dice.once(9) ? "x" : ""));
            int lives = dice.below(3);
            same("book(" + lives + ")", x.book(lives), m.book(lives));
        } else if (kind == 2) {
            tell(joined(PARTS, 1 + dice.below(4), dice.once(2) ? " or " : " and ") + (dice.once(9) ? " or" : ""));
            same("sentence()", x.sentence(), m.sentence());
        } else if (kind == 3) {
            tell("" + (char) dice.below(50) + (char) dice.below(5));
            same("heard()", x.heard(), m.heard());
        } else if (kind < 18) {
            act(dice.below(12));
        } else {
            look(dice.below(30));
        }
    }

    private static String joined(String[] parts, int many, String between) {
        StringBuilder text = new StringBuilder();
        for (int i = 0; i < many; i++) {
            text.append(i == 0 ? "" : between).append(parts[dice.below(parts.length)]);
        }
        return text.toString();
    }

    private static void same(String what, int got, int due) {
        calls++;
        Check.same(what, got, due);
    }

    private static int hand() {
        return dice.below(m.so.hands.size() + 2) - (dice.once(9) ? 1 : 0);
    }

    private static int question() {
        return dice.below(m.so.questions.size() + 1) - (dice.once(9) ? 1 : 0);
    }

    private static void act(int which) {
        int h = hand();
        int q = question();
        int w = dice.below(20) / 9;
        int n = dice.once(3) ? dice.below(23) : dice.below(4);
        int seed = dice.below(1 << 30) - dice.below(1 << 30);
        switch (which) {
            case 0: same("buy(h, n)", x.buy(h, n), m.buy(h, n)); break;
            case 1: same("strike(h)", x.strike(h), m.strike(h, true)); break;
            case 2: same("work(h)", x.work(h), m.strike(h, false)); break;
            case 3: same("sway(h, q, w)", x.sway(h, q, w), m.sway(h, q, w)); break;
            case 4: same("put(q)", x.put(q), m.put(q)); break;
            case 5: same("lay(w, n)", x.lay(w, n), m.lay(w, n)); break;
            case 6: same("weather(k)", x.weather(w + n % 2), m.weather(w + n % 2)); break;
            case 7: same("days(n)", x.days(3 * n), m.days(3 * n)); break;
            case 8: same("drawn(n, seed)", x.drawn(n, seed), m.drawn(n, seed)); break;
            case 9: same("undo()", x.undo(), m.undo()); break;
            case 10: same("image(w)", x.image(w) ? 1 : 0, m.image(w) ? 1 : 0); break;
            default:
                if (dice.once(3)) {
                    same("restore(w)", x.restore(w) ? 1 : 0, m.restore(w) ? 1 : 0);
                }
                break;
        }
    }

    private static void look(int which) {
        int h = hand();
        int q = question();
        int w = dice.below(20) / 9;
        int what = dice.below(9);
        int seed = dice.below(1 << 30) - dice.below(1 << 30);
        boolean both = m.isHand(h) && m.isQuestion(q);
        switch (which) {
            case 0: same("fault()", x.fault(), m.fault); break;
            case 1: compareHand(h, what); break;
            case 2: same("wants(h, q)", x.wants(h, q), both ? m.so.wants[h][q] : Check.NONE); break;
            case 3: compareQuestion(q, what % 6); break;
            case 4: compareGrants(q, dice.below(6)); break;
            case 5: same("way(w, 0)", x.way(w, 0), w < 2 ? m.so.sand[w] : Check.NONE); break;
            case 6: same("way(w, 1)", x.way(w, 1), w < 2 ? m.so.echo[w] : Check.NONE); break;
            case 7: compareNow(); break;
            case 8: same("noise(q, w)", x.noise(q, w), m.isQuestion(q) && w < 2 ? m.so.noise(m.so.goes(q), w) : Check.NONE); break;
            case 9: same("would(q)", x.would(q), !m.isQuestion(q) ? Check.NONE : m.so.ahead(m.so.goes(q)) > 0 ? 1 : 0); break;
            case 10: same("win(q)", x.win(q), m.win(q)); break;
            case 11: same("won()", x.won(), m.won); break;
            case 12: same("winStreets(q)", x.winStreets(q), m.winStreets(q)); break;
            case 13: same("wonStreets()", x.wonStreets(), m.wonStreets); break;
            case 14: same("sanded(q)", x.sanded(q), m.sanded(q)); break;
            case 15: same("bought(q)", x.bought(q), m.bought(q)); break;
            case 16: same("buys(h)", x.buys(h), h >= 0 && h < m.buys.length ? m.buys[h] : Check.NONE); break;
            case 17: same("agenda()", x.agenda(), m.agenda()); break;
            case 18: same("agendaAt(k)", x.agendaAt(q), q >= 0 && q < m.agenda.size() ? m.agenda.get(q) : Check.NONE); break;
            case 19: same("power(h)", x.power(h), m.power(h)); break;
            case 20: same("surely()", x.surely(), m.surely); break;
            case 21: same("ask()", x.ask(), m.ask); break;
            case 22: same("crier(q)", x.crier(q), m.crier(q)); break;
            case 23: same("byteAt(i)", x.byteAt(3 * what), 3 * what < m.cry.length() ? m.cry.charAt(3 * what) : Check.NONE); break;
            case 24: same("odds(q, n, seed)", x.odds(q, what, seed), m.odds(q, what, seed)); break;
            case 25: same("told(what)", x.told(what), what < 4 ? m.told[what] : Check.NONE); break;
            case 26: same("said(NONE)", x.said(Check.NONE), m.said(Check.NONE)); break;
            case 27: same("said(h)", x.said(h), m.said(h)); break;
            case 28: compareCounts(); break;
            default:
                m.tape.setLength(Math.min(what, m.tape.length()));
                same("end(n)", x.end(m.tape.length()) ? 1 : 0, 1);
                break;
        }
    }

    private static void compareHand(int h, int what) {
        int got = -7;
        try {
            got = x.hand(h, what);
        } catch (NoSuchElementException e) {
            got = -9;
        }
        Model.So so = m.so;
        int due = -9;
        if (m.isHand(h) && what < 7) {
            int[] all = {so.home[h], so.irons[h], so.coin[h], so.child[h] ? 1 : 0, so.silent[h] ? 1 : 0, so.loud(h, 0), so.loud(h, 1)};
            due = all[what];
        }
        same("hand(h, " + what + ")", got, due);
    }

    private static void compareQuestion(int q, int what) {
        int got = -7;
        try {
            got = x.question(q, what);
        } catch (NoSuchElementException e) {
            got = -9;
        }
        int due = -9;
        if (m.isQuestion(q) && what < 5) {
            int[] ways = {0, 0};
            for (int h = 0; h < m.so.hands.size(); h++) {
                for (int w = 0; w < 2; w++) {
                    ways[w] |= m.so.wants[h][q] == w ? 1 << h : 0;
                }
            }
            int[] all = {m.so.how[q], m.so.when[q], m.so.louder[q], ways[0], ways[1]};
            due = all[what];
        }
        same("question(q, " + what + ")", got, due);
    }

    private static void compareGrants(int q, int s) {
        same("grants(q, s)", x.grants(q, s), m.isQuestion(q) && s < m.so.streets.size() ? m.so.grants[q][s] : Check.NONE);
    }

    private static void compareNow() {
        int silent = 0;
        int irons = 0;
        int coin = 0;
        for (int h = 0; h < m.so.hands.size(); h++) {
            silent |= m.so.silent[h] ? 1 << h : 0;
            irons += m.so.irons[h];
            coin += m.so.coin[h];
        }
        int[] due = {m.so.day, m.so.weather, silent, irons, coin, m.so.bits(1), m.so.bits(2), m.so.putToday() ? 1 : 0, Check.NONE};
        for (int what = 0; what < due.length; what++) {
            same("now(" + what + ")", x.now(what), due[what]);
        }
    }

    private static void compareCounts() {
        int[] due = {m.so.streets.size(), m.so.hands.size(), m.so.questions.size(), m.so.price, m.so.wage, m.tape.length(), Check.NONE};
        for (int what = 0; what < due.length; what++) {
            same("count(" + what + ")", x.count(what), due[what]);
        }
    }
}
