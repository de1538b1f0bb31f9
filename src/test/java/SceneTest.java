/** Promises 6 to 11: what is so of hands, questions, ways, and now. */
public final class SceneTest {
    private static final String LAND = "street s;street t;hand a s 9 10;hand b t 5 20 child;hand c t 3 30;"
            + "question q;question r;wants a q left;wants b q right;wants c q left;wants b r left;"
            + "grants q t 4;grants r s 9;sand left 2;sand right 6;echo left 3;";

    public static void main(String[] args) {
        hands();
        noSuchHands();
        wants();
        questions();
        grantsAndWays();
        now();
        Check.finish("SceneTest");
    }

    private static void hand(ClogVotes x, int h, int... due) {
        for (int what = 0; what < due.length; what++) {
            Check.same("hand(" + h + ", " + what + ")", x.hand(h, what), due[what]);
        }
    }

    private static void hands() {
        ClogVotes x = Check.valley(LAND);
        hand(x, 0, 0, 9, 10, 0, 0, 7, 3);
        hand(x, 1, 1, 5, 20, 1, 0, 8, 4);
        hand(x, 2, 1, 3, 30, 0, 0, 1, 0);
        x.weather(1);
        hand(x, 0, 0, 9, 10, 0, 0, 2, 0);
        hand(x, 1, 1, 5, 20, 1, 0, 3, 0);
        hand(x, 2, 1, 3, 30, 0, 0, 0, 0);
        x.weather(2);
        hand(x, 0, 0, 9, 10, 0, 0, 7, 3);
        x.strike(1);
        hand(x, 1, 1, 5, 20, 1, 1, 0, 0);
        x.lay(0, 0);
        hand(x, 0, 0, 9, 10, 0, 0, 9, 3);
    }

    private static void noSuchHands() {
        ClogVotes x = Check.valley(LAND);
        Check.missing("hand(3, 0)", () -> x.hand(3, 0));
        Check.missing("hand(-1, 0)", () -> x.hand(-1, 0));
        Check.missing("hand(0, 7)", () -> x.hand(0, 7));
        Check.missing("hand(0, -1)", () -> x.hand(0, -1));
        Check.missing("hand of the least", () -> x.hand(Integer.MIN_VALUE, 0));
        Check.missing("hand of the greatest", () -> x.hand(Integer.MAX_VALUE, 0));
        Check.missing("hand(10, 1)", () -> x.hand(10, 1));
        ClogVotes y = new ClogVotes();
        Check.missing("hand(0, 0) of nobody", () -> y.hand(0, 0));
    }

    private static void wants() {
        ClogVotes x = Check.valley(LAND);
        Check.same("wants(0, 0)", x.wants(0, 0), 0);
        Check.same("wants(1, 0)", x.wants(1, 0), 1);
        Check.same("wants(1, 1)", x.wants(1, 1), 0);
        Check.same("wants(0, 1)", x.wants(0, 1), -2);
        Check.same("wants(3, 0)", x.wants(3, 0), Check.NONE);
        Check.same("wants(0, 2)", x.wants(0, 2), Check.NONE);
        Check.same("wants(-1, 0)", x.wants(-1, 0), Check.NONE);
        Check.same("wants(0, -1)", x.wants(0, -1), Check.NONE);
        x.sway(0, 1, 1);
        x.sway(0, 0, 1);
        Check.same("wants(0, 1)", x.wants(0, 1), 1);
        Check.same("wants(0, 0)", x.wants(0, 0), 1);
    }

    private static void question(ClogVotes x, int q, int... due) {
        for (int what = 0; what < due.length; what++) {
            Check.same("question(" + q + ", " + what + ")", x.question(q, what), due[what]);
        }
    }

    private static void questions() {
        ClogVotes x = Check.valley(LAND);
        question(x, 0, 0, -1, -1, 5, 2);
        question(x, 1, 0, -1, -1, 2, 0);
        x.days(2);
        x.sway(1, 1, 1);
        Check.same("put(1)", x.put(1), 0);
        question(x, 1, 2, 2, 4, 0, 2);
        x.days(1);
        Check.same("put(0)", x.put(0), 0);
        question(x, 0, 1, 3, 7 + 1 + 3 - 4, 5, 2);
        question(x, 1, 2, 2, 4, 0, 2);
        Check.missing("question(2, 0)", () -> x.question(2, 0));
        Check.missing("question(-1, 0)", () -> x.question(-1, 0));
        Check.missing("question(0, 5)", () -> x.question(0, 5));
        Check.missing("question(0, -1)", () -> x.question(0, -1));
        ClogVotes y = Check.valley("question q;");
        y.put(0);
        question(y, 0, 2, 0, 0, 0, 0);
    }

    private static void grantsAndWays() {
        ClogVotes x = Check.valley(LAND);
        Check.same("grants(0, 1)", x.grants(0, 1), 4);
        Check.same("grants(1, 0)", x.grants(1, 0), 9);
        Check.same("grants(0, 0)", x.grants(0, 0), 0);
        Check.same("grants(2, 0)", x.grants(2, 0), Check.NONE);
        Check.same("grants(0, 2)", x.grants(0, 2), Check.NONE);
        Check.same("grants(-1, 0)", x.grants(-1, 0), Check.NONE);
        Check.same("grants(0, -1)", x.grants(0, -1), Check.NONE);
        Check.same("way(0, 0)", x.way(0, 0), 2);
        Check.same("way(1, 0)", x.way(1, 0), 6);
        Check.same("way(0, 1)", x.way(0, 1), 3);
        Check.same("way(1, 1)", x.way(1, 1), 0);
        Check.same("way(2, 0)", x.way(2, 0), Check.NONE);
        Check.same("way(-1, 0)", x.way(-1, 0), Check.NONE);
        Check.same("way(0, 2)", x.way(0, 2), Check.NONE);
        Check.same("way(0, -1)", x.way(0, -1), Check.NONE);
    }

    private static void nows(ClogVotes x, int... due) {
        for (int what = 0; what < due.length; what++) {
            Check.same("now(" + what + ")", x.now(what), due[what]);
        }
        Check.same("now(8)", x.now(8), Check.NONE);
        Check.same("now(-1)", x.now(-1), Check.NONE);
    }

    private static void now() {
        ClogVotes x = Check.valley(LAND);
        nows(x, 0, 0, 0, 17, 60, 0, 0, 0);
        x.strike(1);
        x.strike(2);
        x.put(0);
        nows(x, 0, 0, 6, 17 + 8, 60, 1, 0, 1);
        x.weather(2);
        nows(x, 0, 2, 6, 25, 60, 1, 0, 1);
        x.days(1);
        nows(x, 1, 0, 6, 25, 61, 1, 0, 0);
        x.put(1);
        nows(x, 1, 0, 6, 25, 61, 1, 2, 1);
        x.days(2);
        nows(x, 3, 0, 6, 25, 63, 1, 2, 0);
    }
}
