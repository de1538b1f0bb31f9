/** The edges of promises 38 and 39: days by draws, done again here by the acts of the face. */
public final class EdgesOfDrawsTest {
    private static final int LEAST = Integer.MIN_VALUE;
    private static final int MOST = Integer.MAX_VALUE;
    private static int seed;

    public static void main(String[] args) {
        none();
        days();
        seeds();
        draws();
        lastDay();
        oddsNone();
        odds();
        oddsStay();
        Check.finish("EdgesOfDrawsTest");
    }

    private static int draw(int n) {
        seed = seed * 1103515245 + 12345;
        return (seed >>> 8) % n;
    }

    /** What days drawn by the seed do, by acts. */
    private static void live(ClogVotes x, int days) {
        for (int i = 0; i < days && x.now(0) < 400; i++) {
            x.weather(draw(3));
            for (int h = 0; h < x.count(1); h++) {
                int drawn = draw(10);
                if (drawn == 0 && x.strike(h) != 0) {
                    x.work(h);
                } else if (drawn == 1) {
                    x.buy(h, 1);
                }
            }
            if (x.count(2) > 0) {
                x.put(draw(x.count(2)));
            }
            x.days(1);
        }
    }

    /** A seed above the one told whose first draw of n is the one wanted, and the next ones too. */
    private static int seedOf(int from, int... pairs) {
        for (int found = from; found < from + 1000000; found++) {
            seed = found;
            boolean fits = true;
            for (int i = 0; fits && i + 1 < pairs.length; i += 2) {
                fits = draw(pairs[i]) == pairs[i + 1];
            }
            if (fits) {
                return found;
            }
        }
        return from;
    }

    private static void same(String text, int days, int from, int due) {
        ClogVotes x = Check.valley(text);
        ClogVotes y = Check.valley(text);
        Check.same("drawn(" + days + ", " + from + ")", x.drawn(days, from), due);
        seed = from;
        live(y, days);
        Check.sameText("what is so behind drawn(" + days + ", " + from + ") of " + text, Edges.isSo(x), Edges.isSo(y));
    }

    private static void none() {
        Check.rule("38: NONE: not as told (n 1 to 60)");
        for (int n : new int[] {LEAST, -60, -1, 0, 61, 62, 400, MOST}) {
            Edges.unchanged("drawn(" + n + ", 1)", x -> x.drawn(n, 1), Check.NONE);
        }

        Check.rule("38: NONE: no HANDS");
        Edges.unchanged("drawn(1, 1) of a new object", ClogVotes::new, x -> x.drawn(1, 1), Check.NONE);
        Edges.unchanged("drawn(60, 1) without HANDS", () -> Check.valley("street s;question q;"), x -> x.drawn(60, 1), Check.NONE);

        Check.rule("38: one HAND is enough, without QUESTIONS");
        Check.same("drawn(1, 1)", Check.valley("street s;hand h s 1 1;").drawn(1, 1), 1);
    }

    private static void days() {
        Check.rule("38: how many went by: 1 and 60");
        ClogVotes x = Check.valley(Edges.LAND);
        Check.same("drawn(1, 3)", x.drawn(1, 3), 1);
        Check.same("now(0)", x.now(0), 1);
        Check.same("drawn(60, 3)", x.drawn(60, 3), 60);
        Check.same("now(0)", x.now(0), 61);

        Check.rule("DRAWN: each DAY as told");
        same(Edges.LAND, 1, 3, 1);
        same(Edges.LAND, 2, 3, 2);
        same(Edges.LAND, 12, 3, 12);
        same(Edges.LAND, 25, -77, 25);

        Check.rule("DRAWN: the seed goes on from DAY to DAY, and begins again with each call");
        x = Check.valley(Edges.LAND);
        ClogVotes y = Check.valley(Edges.LAND);
        x.drawn(6, 11);
        y.drawn(3, 11);
        y.drawn(3, 11);
        ClogVotes z = Check.valley(Edges.LAND);
        seed = 11;
        live(z, 3);
        seed = 11;
        live(z, 3);
        Check.sameText("what is so behind 3 and 3", Edges.isSo(y), Edges.isSo(z));
        Check.no("as behind 6", Edges.isSo(x).equals(Edges.isSo(y)));
    }

    private static void seeds() {
        Check.rule("DRAWN by a seed x: x * 1103515245 + 12345 (an int, wrapping)");
        for (int from : new int[] {LEAST, LEAST + 1, -1, 0, 1, MOST - 1, MOST, 0x55555555}) {
            same(Edges.LAND, 10, from, 10);
        }

        Check.rule("DRAWN: the draw is (x >>> 8) % n, never below 0");
        same(Edges.LAND, 10, seedOf(-2000000000, 3, 2, 10, 0, 10, 1), 10);
        same(Edges.LAND, 10, seedOf(2000000000, 3, 1, 10, 1, 10, 0), 10);
    }

    private static void draws() {
        String one = "street s;hand a s 3 5;question q;wants a q left;";
        Check.rule("DRAWN: a draw of 3: the WEATHER: in snow nothing is PUT, in the wet it is half");
        for (int weather = 0; weather < 3; weather++) {
            ClogVotes x = Check.valley(one);
            x.drawn(1, seedOf(1, 3, weather, 10, 5));
            Check.same("question(0, 0) in WEATHER " + weather, x.question(0, 0), weather == 2 ? 0 : 1);
            Check.same("question(0, 2) in WEATHER " + weather, x.question(0, 2), weather == 2 ? Check.NONE : weather == 1 ? 1 : 3);
            Check.same("now(1), it is dry then", x.now(1), 0);
        }

        Check.rule("DRAWN: a draw of 3: the WEATHER, if it is so already, too");
        for (int weather = 0; weather < 3; weather++) {
            ClogVotes x = Check.valley(one);
            x.weather(weather);
            x.drawn(1, seedOf(1, 3, weather, 10, 5));
            Check.same("question(0, 0) in WEATHER " + weather, x.question(0, 0), weather == 2 ? 0 : 1);
        }

        Check.rule("DRAWN: a draw of 10: 0: it strikes (on STRIKE: it works)");
        int strikes = seedOf(1, 3, 0, 10, 0);
        ClogVotes x = Check.valley(one);
        x.drawn(1, strikes);
        Check.same("now(2)", x.now(2), 1);
        Check.same("hand(0, 2) without a wage", x.hand(0, 2), 5);
        Check.same("question(0, 0) on STRIKE", x.question(0, 0), 2);
        x.drawn(1, strikes);
        Check.same("now(2)", x.now(2), 0);
        Check.same("hand(0, 2) with a wage", x.hand(0, 2), 6);

        Check.rule("DRAWN: a draw of 10: 1: it buys 1");
        int buys = seedOf(1, 3, 0, 10, 1);
        x = Check.valley(one);
        x.drawn(1, buys);
        Check.same("hand(0, 1)", x.hand(0, 1), 4);
        Check.same("hand(0, 2)", x.hand(0, 2), 5 - 2 + 1);

        Check.rule("DRAWN: it buys 1, if it can: COIN, 20 IRONS, on STRIKE too");
        x = Check.valley(one.replace("3 5", "3 1"));
        x.drawn(1, buys);
        Check.same("hand(0, 1) with 1 COIN", x.hand(0, 1), 3);
        Check.same("hand(0, 2) with 1 COIN", x.hand(0, 2), 2);
        x = Check.valley(one.replace("3 5", "3 2"));
        x.drawn(1, buys);
        Check.same("hand(0, 1) with 2 COIN", x.hand(0, 1), 4);
        x = Check.valley(one.replace("3 5", "20 5"));
        x.drawn(1, buys);
        Check.same("hand(0, 1) with 20", x.hand(0, 1), 20);
        Check.same("hand(0, 2) with 20", x.hand(0, 2), 6);
        x = Check.valley(one);
        x.strike(0);
        x.drawn(1, buys);
        Check.same("hand(0, 1) on STRIKE", x.hand(0, 1), 4);
        Check.same("hand(0, 2) on STRIKE", x.hand(0, 2), 3);

        Check.rule("DRAWN: a draw of 10: 2 to 9: nothing");
        for (int drawn = 2; drawn < 10; drawn++) {
            x = Check.valley(one);
            x.drawn(1, seedOf(1, 3, 0, 10, drawn));
            Check.same("now(2) behind " + drawn, x.now(2), 0);
            Check.same("hand(0, 1) behind " + drawn, x.hand(0, 1), 3);
            Check.same("hand(0, 2) behind " + drawn, x.hand(0, 2), 6);
        }

        Check.rule("DRAWN: a draw of all QUESTIONS: it is PUT, if it can be");
        String five = "street s;hand a s 1 0;question f;question g;question h;question i;question j;";
        for (int q = 0; q < 5; q++) {
            x = Check.valley(five);
            int from = seedOf(1, 3, 0, 10, 5, 5, q);
            x.drawn(1, from);
            Check.same("now(6)", x.now(6), 1 << q);
            x.drawn(1, from);
            Check.same("now(6), it was PUT", x.now(6), 1 << q);
            Check.same("question(" + q + ", 1)", x.question(q, 1), 0);
        }

        Check.rule("DRAWN: one was PUT on this DAY: none is");
        x = Check.valley(five);
        x.put(1);
        x.drawn(1, seedOf(1, 3, 0, 10, 5, 5, 4));
        Check.same("now(6)", x.now(6), 2);

        Check.rule("DRAWN: a draw of all QUESTIONS (none: no draw)");
        String nothing = "street s;hand a s 3 5;hand b s 3 5;";
        same(nothing, 10, 5, 10);
        same(nothing, 25, 123456, 25);
        same(nothing, 8, -9, 8);
    }

    private static ClogVotes on(int day) {
        ClogVotes x = Check.valley(Edges.LAND);
        for (int left = day; left > 0; left -= 60) {
            x.days(Math.min(60, left));
        }
        return x;
    }

    private static void lastDay() {
        Check.rule("38: how many went by: those that are left");
        for (int day : new int[] {339, 340, 341, 380, 398, 399}) {
            ClogVotes x = on(day);
            Check.same("drawn(60, 4) from " + day, x.drawn(60, 4), Math.min(60, 400 - day));
            Check.same("now(0)", x.now(0), Math.min(day + 60, 400));
        }
        ClogVotes x = on(398);
        ClogVotes y = on(398);
        x.drawn(60, 4);
        y.drawn(2, 4);
        Check.sameText("what is so behind the last two", Edges.isSo(x), Edges.isSo(y));

        Check.rule("38: on DAY 400 none goes by, and nothing is drawn");
        for (int from = 0; from < 20; from++) {
            int any = from;
            x = on(400);
            Check.same("drawn(60, " + from + ")", x.drawn(60, any), 0);
            Check.sameText("what is so", Edges.isSo(x), Edges.isSo(on(400)));
        }
        Edges.unchanged("drawn(1, 7)", () -> on(400), z -> z.drawn(1, 7), 0);
        Edges.unchanged("drawn(61, 7)", () -> on(400), z -> z.drawn(61, 7), Check.NONE);
    }

    private static void oddsNone() {
        Check.rule("39: NONE: no such QUESTION");
        for (int q : Edges.beyond(3)) {
            Edges.unchanged("odds(" + q + ", 1, 1)", x -> x.odds(q, 1, 1), Check.NONE);
        }
        Check.same("odds(0, 1, 1) of none", new ClogVotes().odds(0, 1, 1), Check.NONE);

        Check.rule("39: NONE: no such n (1 to 30)");
        for (int n : new int[] {LEAST, -30, -1, 0, 31, 32, 60, MOST}) {
            Edges.unchanged("odds(0, " + n + ", 1)", x -> x.odds(0, n, 1), Check.NONE);
        }

        Check.rule("39: 1 and 30 seeds");
        ClogVotes x = Check.valley("street s;hand a s 1 0;question q;wants a q left;");
        x.put(0);
        Check.same("odds(0, 1, 1) of one CARRIED", x.odds(0, 1, 1), 1);
        Check.same("odds(0, 30, 1) of one CARRIED", x.odds(0, 30, 1), 30);
        x = Check.valley("street s;hand a s 1 0;question q;wants a q right;");
        x.put(0);
        Check.same("odds(0, 30, 1) of one LOST", x.odds(0, 30, 1), 0);

        Check.rule("39: without HANDS: by none");
        Check.same("odds(0, 30, 1)", Check.valley("question q;").odds(0, 30, 1), 0);
    }

    private static int odds(ClogVotes x, int q, int n, int from) {
        x.image(0);
        int carried = 0;
        for (int i = 0; i < n; i++) {
            x.restore(0);
            x.drawn(20, from + i);
            carried += x.question(q, 0) == 1 ? 1 : 0;
        }
        return carried;
    }

    private static void odds() {
        String text = Edges.LAND.replace("hand c t 19", "hand c t 4") + "sand left 2;";
        Check.rule("39: of n seeds x, x and 1, ..: from the greatest to the least, too");
        for (int from : new int[] {MOST - 14, MOST, LEAST, -15, 0}) {
            for (int q = 0; q < 3; q++) {
                Check.same("odds(" + q + ", 30, " + from + ")", Check.valley(text).odds(q, 30, from), odds(Check.valley(text), q, 30, from));
            }
        }

        Check.rule("39: each seed from what is so now");
        for (int from = 40; from < 60; from++) {
            Check.same("odds(0, 2, " + from + ")", Check.valley(text).odds(0, 2, from), odds(Check.valley(text), 0, 2, from));
        }

        Check.rule("39: behind 20 DAYS, not 19 or 21");
        int nineteen = 0;
        int twentyone = 0;
        String rare = "street s;hand a s 1 0;question q;question r;question t;question u;question v;wants a q left;";
        for (int from = 0; from < 400; from++) {
            int due = odds(Check.valley(rare), 0, 1, from);
            ClogVotes less = Check.valley(rare);
            less.drawn(19, from);
            ClogVotes more = Check.valley(rare);
            more.drawn(21, from);
            boolean lateOne = less.question(0, 0) != due;
            boolean tooLate = more.question(0, 0) == 1 && due == 0;
            if (lateOne || tooLate) {
                nineteen += lateOne ? 1 : 0;
                twentyone += tooLate ? 1 : 0;
                Check.same("odds(0, 1, " + from + ")", Check.valley(rare).odds(0, 1, from), due);
            }
        }
        Check.yes("the nineteenth day was not enough somewhere", nineteen > 0);
        Check.yes("the twenty-first day was too late somewhere", twentyone > 0);

        Check.rule("39: fewer DAYS are left");
        for (int day : new int[] {385, 399, 400}) {
            for (int from = 0; from < 5; from++) {
                Check.same("odds(0, 9, " + from + ") from " + day, on(day).odds(0, 9, from), odds(on(day), 0, 9, from));
            }
        }
        Check.same("odds(1, 30, 5) from 400", on(400).odds(1, 30, 5), 0);
    }

    private static void oddsStay() {
        Check.rule("39: nothing that is so changes");
        Edges.unchanged("odds(0, 30, 5) of one CARRIED", EdgesOfDrawsTest::carried, x -> x.odds(1, 30, 5), 30);
        ClogVotes x = Edges.lively();
        String ahead = Edges.isSo(x) + Edges.wasTold(x);
        x.odds(2, 30, 5);
        Check.sameText("all behind odds(2, 30, 5)", Edges.isSo(x) + Edges.wasTold(x), ahead);
    }

    private static ClogVotes carried() {
        ClogVotes x = Edges.lively();
        x.put(1);
        return x;
    }
}
