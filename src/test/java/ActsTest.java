/** Promises 12 to 20: acts, why they can't be done, days, and acts undone. */
public final class ActsTest {
    private static final String LAND = "street s;street t;hand a s 9 10;hand b t 5 20 child;hand c t 19 99;"
            + "question q;question r;question p;wants a q left;wants b q right;wants a r left;wants c p left;"
            + "grants q t 4;grants q s 1;grants r t 9;price 3;wage 2;";

    public static void main(String[] args) {
        buy();
        strikeAndWork();
        sway();
        put();
        lay();
        weather();
        days();
        lastDay();
        undo();
        undoOfEach();
        undoOfTwo();
        Check.finish("ActsTest");
    }

    private static void buy() {
        ClogVotes x = Check.valley(LAND);
        Check.same("buy(0, 4)", x.buy(0, 4), 1);
        Check.same("buy(0, 3)", x.buy(0, 3), 0);
        Check.same("hand(0, 1)", x.hand(0, 1), 12);
        Check.same("hand(0, 2)", x.hand(0, 2), 1);
        Check.same("buy(0, 1)", x.buy(0, 1), 1);
        Check.same("buy(0, 20)", x.buy(0, 20), 1);
        Check.same("buy(1, 6) for all but 2", x.buy(1, 6), 0);
        Check.same("buy(1, 1) for more", x.buy(1, 1), 1);
        x.undo();
        Check.same("buy(2, 2)", x.buy(2, 2), 2);
        Check.same("hand(2, 2)", x.hand(2, 2), 99);
        Check.same("buy(2, 1)", x.buy(2, 1), 0);
        Check.same("hand(2, 1)", x.hand(2, 1), 20);
        Check.same("hand(2, 2)", x.hand(2, 2), 96);
        Check.same("buy(2, 1) again", x.buy(2, 1), 2);
        Check.same("buy on strike", x.strike(1) + x.buy(1, 6), 0);
        Check.same("hand(1, 2)", x.hand(1, 2), 2);
        for (int[] wrong : new int[][] {{0, 0}, {0, 21}, {0, -1}, {3, 1}, {-1, 1}, {0, Integer.MAX_VALUE}}) {
            Check.same("buy(" + wrong[0] + ", " + wrong[1] + ")", x.buy(wrong[0], wrong[1]), Check.NONE);
        }
        ClogVotes dear = Check.valley("street s;hand h s 0 99;price 5;");
        Check.same("buy(0, 20) for 100", dear.buy(0, 20), 1);
        Check.same("buy(0, 19) for 95", dear.buy(0, 19), 0);
        ClogVotes just = Check.valley("street s;hand h s 0 15;price 5;");
        Check.same("buy(0, 3) for all coin", just.buy(0, 3), 0);
        Check.same("hand(0, 2)", just.hand(0, 2), 0);
        ClogVotes cheap = Check.valley("street s;hand h s 0 60;hand i s 1 60;");
        Check.same("buy(0, 20) for 40", cheap.buy(0, 20), 0);
        Check.same("buy(1, 20) beyond 20", cheap.buy(1, 20), 2);
        Check.same("hand(0, 2)", cheap.hand(0, 2), 20);
    }

    private static void strikeAndWork() {
        ClogVotes x = Check.valley(LAND);
        Check.same("work(1)", x.work(1), 1);
        Check.same("strike(1)", x.strike(1), 0);
        Check.same("strike(1) again", x.strike(1), 1);
        Check.same("now(2)", x.now(2), 2);
        Check.same("strike(2)", x.strike(2), 0);
        Check.same("work(1)", x.work(1), 0);
        Check.same("work(1) again", x.work(1), 1);
        Check.same("now(2)", x.now(2), 4);
        Check.same("strike(3)", x.strike(3), Check.NONE);
        Check.same("strike(-1)", x.strike(-1), Check.NONE);
        Check.same("work(3)", x.work(3), Check.NONE);
        Check.same("work(-1)", x.work(-1), Check.NONE);
    }

    private static void sway() {
        ClogVotes x = Check.valley(LAND);
        Check.same("sway(0, 0, 0)", x.sway(0, 0, 0), 2);
        Check.same("sway(1, 0, 1)", x.sway(1, 0, 1), 2);
        Check.same("sway(1, 0, 0)", x.sway(1, 0, 0), 0);
        Check.same("question(0, 3)", x.question(0, 3), 3);
        Check.same("question(0, 4)", x.question(0, 4), 0);
        Check.same("sway(2, 0, 1)", x.sway(2, 0, 1), 0);
        Check.same("question(0, 4)", x.question(0, 4), 4);
        x.weather(2);
        Check.same("sway in snow", x.sway(0, 1, 1), 0);
        x.weather(0);
        x.put(0);
        Check.same("sway(0, 0, 0) of what was put", x.sway(0, 0, 0), 1);
        Check.same("sway(0, 0, 1) of what was put", x.sway(0, 0, 1), 1);
        for (int[] wrong : new int[][] {{3, 0, 0}, {-1, 0, 0}, {0, 3, 0}, {0, -1, 0}, {0, 1, 2}, {0, 1, -1}, {0, 1, -2}}) {
            Check.same("sway(" + wrong[0] + ", " + wrong[1] + ", " + wrong[2] + ")",
                    x.sway(wrong[0], wrong[1], wrong[2]), Check.NONE);
        }
    }

    private static void put() {
        ClogVotes x = Check.valley(LAND);
        x.lay(1, 3);
        Check.same("put(0), 9 on the left, 7 on the right", x.put(0), 0);
        Check.same("question(0, 2)", x.question(0, 2), 2);
        Check.same("hand(0, 1)", x.hand(0, 1), 10);
        Check.same("hand(1, 1)", x.hand(1, 1), 9);
        Check.same("hand(2, 1), 20 at most", x.hand(2, 1), 20);
        Check.same("put(0) again", x.put(0), 1);
        Check.same("put(1) on the same day", x.put(1), 3);
        x.weather(2);
        Check.same("put(1) in snow", x.put(1), 2);
        Check.same("put(0) in snow", x.put(0), 1);
        x.days(1);
        x.lay(0, 20);
        Check.same("put(1)", x.put(1), 0);
        Check.same("question(1, 0), none is louder", x.question(1, 0), 2);
        Check.same("question(1, 2)", x.question(1, 2), 0);
        Check.same("hand(1, 1), lost grants nothing", x.hand(1, 1), 9);
        Check.same("put(3)", x.put(3), Check.NONE);
        Check.same("put(-1)", x.put(-1), Check.NONE);
        ClogVotes close = Check.valley(LAND);
        close.lay(1, 2);
        Check.same("put(0), 9 on the left, 8 on the right", close.put(0), 0);
        Check.same("question(0, 0)", close.question(0, 0), 1);
        Check.same("question(0, 2)", close.question(0, 2), 1);
        Check.same("hand(0, 1)", close.hand(0, 1), 10);
        ClogVotes even = Check.valley(LAND);
        even.lay(1, 1);
        Check.same("put(0), 9 on both", even.put(0), 0);
        Check.same("question(0, 0)", even.question(0, 0), 2);
        Check.same("question(0, 2)", even.question(0, 2), 0);
        Check.same("hand(0, 1)", even.hand(0, 1), 9);
        ClogVotes wet = Check.valley(LAND);
        wet.weather(1);
        wet.put(0);
        Check.same("question(0, 0), 4 on the left, 5 on the right", wet.question(0, 0), 2);
        Check.same("question(0, 2)", wet.question(0, 2), 1);
    }

    private static void lay() {
        ClogVotes x = Check.valley(LAND);
        Check.same("lay(0, 0)", x.lay(0, 0), 1);
        Check.same("lay(0, 20)", x.lay(0, 20), 0);
        Check.same("lay(0, 20) again", x.lay(0, 20), 1);
        Check.same("lay(1, 5)", x.lay(1, 5), 0);
        Check.same("way(0, 0)", x.way(0, 0), 20);
        Check.same("way(1, 0)", x.way(1, 0), 5);
        Check.same("lay(0, 0)", x.lay(0, 0), 0);
        for (int[] wrong : new int[][] {{0, 21}, {0, -1}, {2, 1}, {-1, 1}}) {
            Check.same("lay(" + wrong[0] + ", " + wrong[1] + ")", x.lay(wrong[0], wrong[1]), Check.NONE);
        }
    }

    private static void weather() {
        ClogVotes x = new ClogVotes();
        Check.same("weather(0)", x.weather(0), 1);
        Check.same("weather(1)", x.weather(1), 0);
        Check.same("weather(1) again", x.weather(1), 1);
        Check.same("weather(2)", x.weather(2), 0);
        Check.same("now(1)", x.now(1), 2);
        Check.same("weather(0)", x.weather(0), 0);
        Check.same("weather(3)", x.weather(3), Check.NONE);
        Check.same("weather(-1)", x.weather(-1), Check.NONE);
    }

    private static void days() {
        ClogVotes x = Check.valley(LAND);
        x.strike(1);
        x.weather(1);
        Check.same("days(1)", x.days(1), 1);
        Check.same("now(0)", x.now(0), 1);
        Check.same("now(1), it is dry", x.now(1), 0);
        Check.same("hand(0, 2)", x.hand(0, 2), 12);
        Check.same("hand(1, 2), on strike", x.hand(1, 2), 20);
        Check.same("days(60)", x.days(60), 60);
        Check.same("hand(0, 2)", x.hand(0, 2), 132);
        Check.same("days(61)", x.days(61), Check.NONE);
        Check.same("days(0)", x.days(0), Check.NONE);
        Check.same("days(-1)", x.days(-1), Check.NONE);
        ClogVotes rich = Check.valley("street s;hand h s 0 99;hand i s 0 0;wage 9;");
        rich.days(60);
        rich.days(40);
        Check.same("hand(0, 2) of 99 and 900", rich.hand(0, 2), 999);
        Check.same("hand(1, 2)", rich.hand(1, 2), 900);
        rich.days(12);
        Check.same("hand(0, 2), 999 at most", rich.hand(0, 2), 999);
        Check.same("hand(1, 2), 999 at most", rich.hand(1, 2), 999);
    }

    private static void lastDay() {
        ClogVotes x = Check.valley(LAND);
        for (int i = 0; i < 6; i++) {
            Check.same("days(60)", x.days(60), 60);
        }
        Check.same("days(39)", x.days(39), 39);
        Check.same("put(0) on day 399", x.put(0), 0);
        Check.same("days(60) on day 399", x.days(60), 1);
        Check.same("now(0)", x.now(0), 400);
        Check.same("days(1) on day 400", x.days(1), 0);
        x.weather(1);
        int coin = x.now(4);
        Check.same("days(60) on day 400", x.days(60), 0);
        Check.same("now(0)", x.now(0), 400);
        Check.same("now(1)", x.now(1), 1);
        Check.same("now(4)", x.now(4), coin);
        Check.same("put(1) on day 400", x.put(1), 0);
        Check.same("put(2) on day 400", x.put(2), 3);
        Check.same("drawn(5, 1) on day 400", x.drawn(5, 1), 0);
        Check.same("strike(0) on day 400", x.strike(0), 0);
        Check.same("undo(), no day of 0 was kept", x.undo(), 7);
        x.undo();
        Check.same("undo() of put(1)", x.question(1, 0), 0);
        x.undo();
        Check.same("undo() of weather(1)", x.now(1), 0);
        Check.same("undo() of the last day", x.undo(), 4);
        Check.same("now(0)", x.now(0), 399);
    }

    private static void undo() {
        ClogVotes x = Check.valley(LAND);
        Check.same("undo() of nothing", x.undo(), Check.NONE);
        for (int sand = 1; sand <= 12; sand++) {
            x.lay(0, sand);
            x.lay(0, sand);
            x.buy(0, 20);
            x.days(0);
        }
        for (int k = 7; k >= 0; k--) {
            Check.same("undo()", x.undo(), k);
            Check.same("way(0, 0)", x.way(0, 0), 4 + k);
        }
        Check.same("undo() of a ninth", x.undo(), Check.NONE);
        Check.same("way(0, 0)", x.way(0, 0), 4);
        x.strike(0);
        x.strike(1);
        Check.same("undo()", x.undo(), 1);
        x.strike(2);
        Check.same("undo()", x.undo(), 1);
        Check.same("now(2)", x.now(2), 1);
        Check.same("undo()", x.undo(), 0);
        Check.same("now(2)", x.now(2), 0);
    }

    private static ClogVotes withStrike() {
        ClogVotes x = Check.valley(LAND);
        x.strike(2);
        return x;
    }

    private static void undoOfEach() {
        String first = all(withStrike());
        for (int act = 0; act < 10; act++) {
            ClogVotes x = withStrike();
            doOne(x, act);
            undone(x, first);
        }
        ClogVotes x = withStrike();
        x.sway(1, 1, 1);
        undone(x, first);
        x.lay(1, 10);
        String sandy = all(x);
        x.put(0);
        Check.same("question(0, 0)", x.question(0, 0), 1);
        Check.same("undo() of put(0)", x.undo(), 2);
        Check.sameText("what is so behind undo()", all(x), sandy);
        x = withStrike();
        x.drawn(20, 5);
        undone(x, first);
        Check.book(x, "a strikes;b strikes;day 6;wet;put q;put q;", 1);
        undone(x, first);
        Check.same("book(1) without a lived line", Check.book(x, "c strikes;wet;", 1), 0);
        Check.same("book(0)", Check.book(x, "a strikes;wet;", 0), Check.NONE);
        Check.same("undo() of strike(2)", x.undo(), 0);
        Check.same("now(2)", x.now(2), 0);
    }

    /** Each act behind another one: undo takes the latest back alone. */
    private static void undoOfTwo() {
        for (int act = 0; act < 10; act++) {
            ClogVotes x = withStrike();
            String first = all(x);
            x.lay(0, 10 + act);
            String second = all(x);
            doOne(x, act);
            Check.no("act " + act + " does something", all(x).equals(second));
            Check.same("undo() of act " + act, x.undo(), 2);
            Check.sameText("what is so behind undo() of act " + act, all(x), second);
            Check.same("undo() of lay()", x.undo(), 1);
            Check.sameText("what is so behind undo() of lay()", all(x), first);
        }
    }

    private static void doOne(ClogVotes x, int act) {
        switch (act) {
            case 0: x.buy(0, 2); break;
            case 1: x.strike(1); break;
            case 2: x.sway(2, 0, 1); break;
            case 3: x.put(1); break;
            case 4: x.weather(2); break;
            case 5: x.days(1); break;
            case 6: x.drawn(1, 9); break;
            case 7: Check.book(x, "wet;wet;", 1); break;
            case 8: x.work(2); break;
            default: x.lay(1, 1); break;
        }
    }

    private static void undone(ClogVotes x, String due) {
        Check.same("undo()", x.undo(), 1);
        Check.sameText("what is so behind undo()", all(x), due);
    }

    /** All that is so, as a text. */
    private static String all(ClogVotes x) {
        StringBuilder all = new StringBuilder();
        for (int what = 0; what < 8; what++) {
            all.append(x.now(what)).append(' ');
        }
        for (int h = 0; h < x.count(1); h++) {
            for (int what = 0; what < 7; what++) {
                all.append(x.hand(h, what)).append(' ');
            }
        }
        for (int q = 0; q < x.count(2); q++) {
            for (int what = 0; what < 5; what++) {
                all.append(x.question(q, what)).append(' ');
            }
        }
        return all.append(x.way(0, 0)).append(' ').append(x.way(1, 0)).toString();
    }
}
