/** Promises 38 and 39: days by draws, each compared with the same acts done one by one. */
public final class DrawsTest {
    private static final String LAND = "street s;street t;hand a s 9 10;hand b t 5 20 child;hand c t 3 30;"
            + "question q;question r;wants a q left;wants b q right;wants c q left;wants b r left;"
            + "grants q t 4;grants r s 9;sand left 2;sand right 6;echo left 3;";
    private static int x;

    public static void main(String[] args) {
        wrong();
        byHand();
        asActs();
        toTheLastDay();
        odds();
        oddsWrong();
        Check.finish("DrawsTest");
    }

    private static void wrong() {
        ClogVotes v = Check.valley(LAND);
        Check.same("drawn(0, 1)", v.drawn(0, 1), Check.NONE);
        Check.same("drawn(61, 1)", v.drawn(61, 1), Check.NONE);
        Check.same("drawn(-1, 1)", v.drawn(-1, 1), Check.NONE);
        Check.same("now(0)", v.now(0), 0);
        ClogVotes nobody = Check.valley("street s;question q;");
        Check.same("drawn(1, 1) of no hands", nobody.drawn(1, 1), Check.NONE);
        Check.same("undo()", nobody.undo(), Check.NONE);
        Check.same("odds(0, 30, 1) of no hands", nobody.odds(0, 30, 1), 0);
    }

    private static void byHand() {
        // seed 0: 12345 (48: weather 0), then x * 1103515245 + 12345 for the one hand and the one question
        int first = 12345;
        int second = first * 1103515245 + 12345;
        int third = second * 1103515245 + 12345;
        ClogVotes v = Check.valley("street s;hand h s 1 5;question q;wants h q left;");
        Check.same("drawn(1, 0)", v.drawn(1, 0), 1);
        int hand = (second >>> 8) % 10;
        Check.same("now(0)", v.now(0), 1);
        Check.same("now(1)", v.now(1), 0);
        Check.same("now(2)", v.now(2), hand == 0 ? 1 : 0);
        Check.same("the weather was dry", (first >>> 8) % 3, 0);
        Check.same("question(0, 1)", v.question(0, 1), (third >>> 8) % 1);
        Check.same("hand(0, 2)", v.hand(0, 2), hand == 1 ? 4 : hand == 0 ? 5 : 6);
    }

    private static int draw(int n) {
        x = x * 1103515245 + 12345;
        return (x >>> 8) % n;
    }

    /** What drawn() does, by the acts of the face. */
    private static void live(ClogVotes v, int days) {
        for (int i = 0; i < days && v.now(0) < 400; i++) {
            v.weather(draw(3));
            for (int h = 0; h < v.count(1); h++) {
                int drawn = draw(10);
                if (drawn == 0 && v.strike(h) != 0) {
                    v.work(h);
                }
                if (drawn == 1) {
                    v.buy(h, 1);
                }
            }
            if (v.count(2) > 0) {
                v.put(draw(v.count(2)));
            }
            v.days(1);
        }
    }

    private static void compare(String what, ClogVotes got, ClogVotes due) {
        for (int k = 0; k < 8; k++) {
            Check.same(what + ": now(" + k + ")", got.now(k), due.now(k));
        }
        for (int h = 0; h < due.count(1); h++) {
            for (int k = 0; k < 7; k++) {
                Check.same(what + ": hand(" + h + ", " + k + ")", got.hand(h, k), due.hand(h, k));
            }
        }
        for (int q = 0; q < due.count(2); q++) {
            for (int k = 0; k < 5; k++) {
                Check.same(what + ": question(" + q + ", " + k + ")", got.question(q, k), due.question(q, k));
            }
        }
    }

    private static void asActs() {
        int[] seeds = {0, 1, -1, 77, 123456789, Integer.MAX_VALUE, Integer.MIN_VALUE};
        for (int seed : seeds) {
            for (int days : new int[] {1, 2, 7, 20}) {
                ClogVotes got = Check.valley(LAND);
                ClogVotes due = Check.valley(LAND);
                Check.same("put(1) ahead", got.put(1), due.put(1));
                Check.same("drawn(" + days + ", " + seed + ")", got.drawn(days, seed), days);
                x = seed;
                live(due, days);
                compare("drawn(" + days + ", " + seed + ")", got, due);
                Check.same("undo() of drawn()", got.undo(), 1);
                Check.same("now(0) behind undo()", got.now(0), 0);
            }
        }
        String without = "street s;hand a s 3 9;hand b s 4 9;";
        ClogVotes got = Check.valley(without);
        ClogVotes due = Check.valley(without);
        x = 99;
        live(due, 15);
        Check.same("drawn(15, 99) without questions", got.drawn(15, 99), 15);
        compare("without questions", got, due);
    }

    private static void toTheLastDay() {
        ClogVotes v = Check.valley(LAND);
        for (int i = 0; i < 6; i++) {
            v.days(60);
        }
        Check.same("days(35)", v.days(35), 35);
        Check.same("drawn(60, 3)", v.drawn(60, 3), 5);
        Check.same("now(0)", v.now(0), 400);
        int coin = v.now(4);
        int out = v.now(2);
        Check.same("drawn(60, 4)", v.drawn(60, 4), 0);
        Check.same("now(4)", v.now(4), coin);
        Check.same("now(2)", v.now(2), out);
        Check.same("undo()", v.undo(), 7);
        Check.same("now(0)", v.now(0), 395);
    }

    private static void odds() {
        for (int seed : new int[] {5, -3, Integer.MAX_VALUE - 4}) {
            for (int q = 0; q < 2; q++) {
                int due = 0;
                for (int i = 0; i < 30; i++) {
                    ClogVotes v = Check.valley(LAND);
                    v.strike(0);
                    v.drawn(20, seed + i);
                    due += v.question(q, 0) == 1 ? 1 : 0;
                }
                ClogVotes v = Check.valley(LAND);
                v.strike(0);
                Check.same("odds(" + q + ", 30, " + seed + ")", v.odds(q, 30, seed), due);
                Check.same("now(0) stays", v.now(0), 0);
                Check.same("now(3) stays", v.now(3), 17);
                Check.same("undo() of strike(0)", v.undo(), 0);
            }
        }
        ClogVotes v = Check.valley(LAND);
        v.put(0);
        Check.same("odds(0, 11, 2) of what is carried", v.odds(0, 11, 2), 11);
        Check.same("odds(0, 1, 2) of what is carried", v.odds(0, 1, 2), 1);
        v = Check.valley(LAND);
        v.lay(0, 20);
        v.put(0);
        Check.same("odds(0, 11, 2) of what is lost", v.odds(0, 11, 2), 0);
    }

    private static void oddsWrong() {
        ClogVotes v = Check.valley(LAND);
        Check.same("odds(2, 1, 1)", v.odds(2, 1, 1), Check.NONE);
        Check.same("odds(-1, 1, 1)", v.odds(-1, 1, 1), Check.NONE);
        Check.same("odds(0, 0, 1)", v.odds(0, 0, 1), Check.NONE);
        Check.same("odds(0, 31, 1)", v.odds(0, 31, 1), Check.NONE);
        Check.same("odds(0, -5, 1)", v.odds(0, -5, 1), Check.NONE);
    }
}
