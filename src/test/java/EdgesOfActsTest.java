/** The edges of promises 12 to 19: acts that can just be done, just not, and of none such. */
public final class EdgesOfActsTest {
    private static final int LEAST = Integer.MIN_VALUE;
    private static final int MOST = Integer.MAX_VALUE;

    public static void main(String[] args) {
        buyNone();
        buyWhy();
        strike();
        work();
        swayNone();
        swayWhy();
        putNone();
        putWhy();
        putGrants();
        lay();
        weather();
        daysNone();
        days();
        lastDay();
        Check.finish("EdgesOfActsTest");
    }

    private static void buyNone() {
        Check.rule("12: n 1 to 20");
        for (int n : new int[] {LEAST, -20, -1, 0, 21, 22, MOST}) {
            Edges.unchanged("buy(2, " + n + ")", x -> x.buy(2, n), Check.NONE);
        }
        Check.same("buy(0, 1)", Check.valley("street s;hand h s 0 99;").buy(0, 1), 0);
        Check.same("buy(0, 20)", Check.valley("street s;hand h s 0 99;").buy(0, 20), 0);

        Check.rule("12: NONE: no such HAND");
        for (int h : Edges.beyond(3)) {
            Edges.unchanged("buy(" + h + ", 1)", x -> x.buy(h, 1), Check.NONE);
        }
        Edges.unchanged("buy(0, 1) of nobody", ClogVotes::new, x -> x.buy(0, 1), Check.NONE);
    }

    private static ClogVotes buyer(int irons, int coin, int price) {
        return Check.valley("street s;hand g s 0 99;hand h s " + irons + " " + coin + ";price " + price + ";");
    }

    private static void bought(int irons, int coin, int price, int n) {
        ClogVotes x = buyer(irons, coin, price);
        Check.same("buy(1, " + n + ") of " + coin + " COIN at " + price, x.buy(1, n), 0);
        Check.same("hand(1, 1)", x.hand(1, 1), irons + n);
        Check.same("hand(1, 2)", x.hand(1, 2), coin - n * price);
        Check.same("hand(0, 1) of another", x.hand(0, 1), 0);
        Check.same("hand(0, 2) of another", x.hand(0, 2), 99);
        Check.same("undo()", x.undo(), 0);
        Check.same("hand(1, 1) behind undo()", x.hand(1, 1), irons);
        Check.same("hand(1, 2) behind undo()", x.hand(1, 2), coin);
    }

    private static void buyWhy() {
        Check.rule("BUY: 1 its COIN is below n times the price");
        Edges.unchanged("buy(1, 3) of 14 at 5", () -> buyer(0, 14, 5), x -> x.buy(1, 3), 1);
        Edges.unchanged("buy(1, 20) of 99 at 5", () -> buyer(0, 99, 5), x -> x.buy(1, 20), 1);
        Edges.unchanged("buy(1, 1) of 0 at 1", () -> buyer(0, 0, 1), x -> x.buy(1, 1), 1);
        Edges.unchanged("buy(1, 1) of 8 at 9", () -> buyer(0, 8, 9), x -> x.buy(1, 1), 1);

        Check.rule("BUY: its COIN is just n times the price");
        bought(0, 15, 5, 3);
        bought(0, 1, 1, 1);
        bought(0, 9, 9, 1);
        bought(0, 40, 2, 20);

        Check.rule("BUY: 2 it would have more than 20");
        Edges.unchanged("buy(1, 1) with 20", () -> buyer(20, 99, 1), x -> x.buy(1, 1), 2);
        Edges.unchanged("buy(1, 3) with 18", () -> buyer(18, 99, 1), x -> x.buy(1, 3), 2);
        Edges.unchanged("buy(1, 20) with 1", () -> buyer(1, 99, 1), x -> x.buy(1, 20), 2);

        Check.rule("BUY: it would have just 20");
        bought(18, 99, 1, 2);
        bought(19, 99, 9, 1);
        bought(0, 99, 1, 20);

        Check.rule("BUY: why not, the least");
        Edges.unchanged("buy(1, 2) with 19, 1 COIN at 1", () -> buyer(19, 1, 1), x -> x.buy(1, 2), 1);
        Edges.unchanged("buy(1, 20) with 20, 99 COIN at 9", () -> buyer(20, 99, 9), x -> x.buy(1, 20), 1);

        Check.rule("BUY: a HAND on STRIKE can, in snow too");
        ClogVotes x = buyer(0, 4, 2);
        x.strike(1);
        x.weather(2);
        Check.same("buy(1, 2)", x.buy(1, 2), 0);
    }

    private static void strike() {
        Check.rule("13: STRIKE: 1 it is on STRIKE");
        Edges.unchanged("strike(1)", x -> x.strike(1), 1);

        Check.rule("13: 0, and it is");
        ClogVotes x = Edges.lively();
        Check.same("strike(0)", x.strike(0), 0);
        Check.same("strike(2)", x.strike(2), 0);
        Check.same("now(2)", x.now(2), 7);

        Check.rule("13: NONE: no such one");
        for (int h : Edges.beyond(3)) {
            Edges.unchanged("strike(" + h + ")", y -> y.strike(h), Check.NONE);
        }
        Edges.unchanged("strike(0) of nobody", ClogVotes::new, y -> y.strike(0), Check.NONE);
    }

    private static void work() {
        Check.rule("14: WORK: 1 it is not on STRIKE");
        Edges.unchanged("work(0)", x -> x.work(0), 1);
        Edges.unchanged("work(2)", x -> x.work(2), 1);

        Check.rule("14: 0, and it is on STRIKE no more");
        ClogVotes x = Edges.lively();
        x.strike(2);
        Check.same("work(1)", x.work(1), 0);
        Check.same("now(2)", x.now(2), 4);
        Check.same("work(1)", x.work(1), 1);

        Check.rule("14: NONE: no such one");
        for (int h : Edges.beyond(3)) {
            Edges.unchanged("work(" + h + ")", y -> y.work(h), Check.NONE);
        }
        Edges.unchanged("work(0) of nobody", ClogVotes::new, y -> y.work(0), Check.NONE);
    }

    private static void swayNone() {
        Check.rule("15: NONE: no such HAND");
        for (int h : Edges.beyond(3)) {
            Edges.unchanged("sway(" + h + ", 0, 0)", x -> x.sway(h, 0, 0), Check.NONE);
        }
        Edges.unchanged("sway(0, 0, 0) of nobody", () -> Check.valley("question q;"), x -> x.sway(0, 0, 0), Check.NONE);

        Check.rule("15: NONE: no such QUESTION");
        for (int q : Edges.beyond(3)) {
            Edges.unchanged("sway(0, " + q + ", 0)", x -> x.sway(0, q, 0), Check.NONE);
        }
        Edges.unchanged("sway(0, 0, 0) for nothing", () -> Check.valley("street s;hand h s 1 1;"), x -> x.sway(0, 0, 0), Check.NONE);

        Check.rule("15: NONE: no such WAY");
        for (int w : Edges.beyond(2)) {
            Edges.unchanged("sway(0, 2, " + w + ")", x -> x.sway(0, 2, w), Check.NONE);
            Edges.unchanged("sway(0, 0, " + w + ")", x -> x.sway(0, 0, w), Check.NONE);
        }
    }

    private static ClogVotes lost() {
        ClogVotes x = Edges.lively();
        x.put(1);
        x.undo();
        x.lay(0, 20);
        x.put(0);
        return x;
    }

    private static void swayWhy() {
        Check.rule("SWAY: 1 it was PUT, CARRIED or LOST");
        Edges.unchanged("sway(2, 0, 0) of one LOST", EdgesOfActsTest::lost, x -> x.sway(2, 0, 0), 1);
        Edges.unchanged("sway(2, 0, 1) of one LOST", EdgesOfActsTest::lost, x -> x.sway(2, 0, 1), 1);
        ClogVotes y = Edges.lively();
        y.put(1);
        Check.same("question(1, 0)", y.question(1, 0), 1);
        Check.same("sway(2, 1, 1) of one CARRIED", y.sway(2, 1, 1), 1);
        Check.same("sway(2, 2, 1) of one that was not PUT", y.sway(2, 2, 1), 0);

        Check.rule("SWAY: 2 it wants it by that WAY");
        Edges.unchanged("sway(0, 0, 0)", x -> x.sway(0, 0, 0), 2);
        Edges.unchanged("sway(1, 0, 1)", x -> x.sway(1, 0, 1), 2);

        Check.rule("SWAY: why not, the least");
        Edges.unchanged("sway(0, 0, 0) of one LOST", EdgesOfActsTest::lost, x -> x.sway(0, 0, 0), 1);
        Edges.unchanged("sway(1, 0, 1) of one LOST", EdgesOfActsTest::lost, x -> x.sway(1, 0, 1), 1);

        Check.rule("SWAY: it wants it so, who wanted it by none or by the other WAY");
        for (int w = 0; w < 2; w++) {
            ClogVotes x = Edges.lively();
            Check.same("sway(2, 0, " + w + ") of none", x.sway(2, 0, w), 0);
            Check.same("wants(2, 0)", x.wants(2, 0), w);
            Check.same("sway(2, 0, " + (1 - w) + ") of the other", x.sway(2, 0, 1 - w), 0);
            Check.same("wants(2, 0)", x.wants(2, 0), 1 - w);
            Check.same("wants(0, 0) of another", x.wants(0, 0), 0);
            Check.same("wants(1, 0) of another", x.wants(1, 0), 1);
            Check.same("wants(2, 1) of another", x.wants(2, 1), -2);
            Check.same("sway(2, 0, " + (1 - w) + ") again", x.sway(2, 0, 1 - w), 2);
        }
    }

    private static void putNone() {
        Check.rule("16: NONE: no such one");
        for (int q : Edges.beyond(3)) {
            Edges.unchanged("put(" + q + ")", x -> x.put(q), Check.NONE);
        }
        Edges.unchanged("put(0) of none", ClogVotes::new, x -> x.put(0), Check.NONE);
        ClogVotes snow = Edges.lively();
        snow.weather(2);
        Check.same("put(3) in snow", snow.put(3), Check.NONE);
    }

    private static ClogVotes snowed() {
        ClogVotes x = Edges.lively();
        x.weather(2);
        return x;
    }

    private static ClogVotes snowedBehind() {
        ClogVotes x = lost();
        x.weather(2);
        return x;
    }

    private static ClogVotes nextDay() {
        ClogVotes x = lost();
        x.days(1);
        return x;
    }

    private static void putWhy() {
        Check.rule("PUT: 1 it was PUT");
        Edges.unchanged("put(0) on the next DAY", EdgesOfActsTest::nextDay, x -> x.put(0), 1);

        Check.rule("PUT: 2 there is snow");
        Edges.unchanged("put(1) in snow", EdgesOfActsTest::snowed, x -> x.put(1), 2);

        Check.rule("PUT: 3 one was PUT on this DAY");
        Edges.unchanged("put(1)", EdgesOfActsTest::lost, x -> x.put(1), 3);
        ClogVotes y = Edges.lively();
        y.put(1);
        Check.same("put(2) behind one CARRIED", y.put(2), 3);
        y.days(1);
        Check.same("put(2) on the next DAY", y.put(2), 0);

        Check.rule("PUT: why not, the least");
        Edges.unchanged("put(0): 1, not 3", EdgesOfActsTest::lost, x -> x.put(0), 1);
        Edges.unchanged("put(0): 1, not 2 or 3", EdgesOfActsTest::snowedBehind, x -> x.put(0), 1);
        Edges.unchanged("put(1): 2, not 3", EdgesOfActsTest::snowedBehind, x -> x.put(1), 2);

        Check.rule("PUT: it can be in the dry and the wet");
        y = Edges.lively();
        Check.same("put(0)", y.put(0), 0);
        y.days(1);
        y.weather(1);
        Check.same("put(1) in the wet", y.put(1), 0);
        y.days(1);
        y.weather(2);
        y.weather(0);
        Check.same("put(2) behind snow", y.put(2), 0);
    }

    private static void putGrants() {
        String text = "street s;street t;hand a s 0 0;hand b s 15 0;hand c s 16 0;hand d s 20 0;hand e t 7 0;hand f t 0 0 child;"
                + "question q;question r;question p;wants b q left;wants e r right;wants e p left;wants d p right;grants q s 5;grants r s 9;grants p t 9;";
        Check.rule("PUT: carried, each HAND of each STREET to which it grants N has N IRONS more (20 at most)");
        ClogVotes x = Check.valley(text);
        x.strike(0);
        Check.same("put(0)", x.put(0), 0);
        int[] irons = {5, 20, 20, 20, 7, 0};
        for (int h = 0; h < 6; h++) {
            Check.same("hand(" + h + ", 1)", x.hand(h, 1), irons[h]);
        }

        Check.rule("PUT: LOST grants nothing");
        x = Check.valley(text);
        x.put(1);
        Check.same("question(1, 0)", x.question(1, 0), 2);
        Check.same("now(3)", x.now(3), 58);
        x.days(1);
        x.put(2);
        Check.same("question(2, 0)", x.question(2, 0), 2);
        Check.same("now(3)", x.now(3), 58);

        Check.rule("PUT: 9 IRONS more, to all of a STREET");
        x = Check.valley(text);
        x.strike(3);
        x.put(2);
        Check.same("hand(4, 1)", x.hand(4, 1), 16);
        Check.same("hand(5, 1)", x.hand(5, 1), 9);
        Check.same("hand(0, 1)", x.hand(0, 1), 0);

        Check.rule("PUT: neither WAY is louder: LOST");
        x = Check.valley("street s;hand a s 4 0;hand b s 2 0 child;question q;question r;wants a q left;wants b q right;");
        x.put(0);
        Check.same("question(0, 0), 4 against 4", x.question(0, 0), 2);
        x.days(1);
        x.put(1);
        Check.same("question(1, 0), 0 against 0", x.question(1, 0), 2);
    }

    private static void lay() {
        Check.rule("17: n 0 to 20");
        for (int n : new int[] {LEAST, -1, 21, 22, MOST}) {
            Edges.unchanged("lay(0, " + n + ")", x -> x.lay(0, n), Check.NONE);
            Edges.unchanged("lay(1, " + n + ")", x -> x.lay(1, n), Check.NONE);
        }

        Check.rule("17: NONE: no such WAY");
        for (int w : Edges.beyond(2)) {
            Edges.unchanged("lay(" + w + ", 0)", x -> x.lay(w, 0), Check.NONE);
            Edges.unchanged("lay(" + w + ", 20)", x -> x.lay(w, 20), Check.NONE);
        }

        Check.rule("LAY: 1 it has just so much");
        Edges.unchanged("lay(0, 3)", x -> x.lay(0, 3), 1);
        Edges.unchanged("lay(1, 0)", x -> x.lay(1, 0), 1);
        Edges.unchanged("lay(1, 0) of a new object", ClogVotes::new, x -> x.lay(1, 0), 1);
        ClogVotes full = Check.valley("sand right 20;");
        Check.same("lay(1, 20)", full.lay(1, 20), 1);

        Check.rule("LAY: it has so much, 0 and 20 too, more and less");
        ClogVotes x = Edges.lively();
        for (int n : new int[] {20, 0, 1, 19, 2, 3}) {
            Check.same("lay(0, " + n + ")", x.lay(0, n), 0);
            Check.same("way(0, 0)", x.way(0, 0), n);
            Check.same("way(1, 0) of the other", x.way(1, 0), 0);
        }
        Check.same("lay(1, 3)", x.lay(1, 3), 0);
        Check.same("way(1, 0)", x.way(1, 0), 3);
    }

    private static void weather() {
        Check.rule("18: NONE: no such one (0 to 2)");
        for (int k : Edges.beyond(3)) {
            Edges.unchanged("weather(" + k + ")", x -> x.weather(k), Check.NONE);
        }

        Check.rule("WEATHER: 1 it is so");
        Edges.unchanged("weather(0)", x -> x.weather(0), 1);
        Edges.unchanged("weather(2)", EdgesOfActsTest::snowed, x -> x.weather(2), 1);
        ClogVotes wet = new ClogVotes();
        wet.weather(1);
        Check.same("weather(1)", wet.weather(1), 1);

        Check.rule("18: 0, from each to each other");
        ClogVotes x = new ClogVotes();
        for (int k : new int[] {1, 2, 1, 0, 2, 0}) {
            Check.same("weather(" + k + ")", x.weather(k), 0);
            Check.same("now(1)", x.now(1), k);
        }
    }

    private static void daysNone() {
        Check.rule("19: NONE: not as told (1 to 60)");
        for (int n : new int[] {LEAST, -60, -1, 0, 61, 62, 400, MOST}) {
            Edges.unchanged("days(" + n + ")", x -> x.days(n), Check.NONE);
        }

        Check.rule("19: how many did: 1 and 60");
        ClogVotes x = new ClogVotes();
        Check.same("days(1)", x.days(1), 1);
        Check.same("days(60)", x.days(60), 60);
        Check.same("now(0)", x.now(0), 61);
    }

    private static void days() {
        Check.rule("A DAY: each HAND that is not on STRIKE has 'wage' more COIN");
        ClogVotes x = Edges.lively();
        x.days(1);
        Check.same("hand(0, 2)", x.hand(0, 2), 12);
        Check.same("hand(1, 2) on STRIKE", x.hand(1, 2), 20);
        Check.same("hand(2, 2)", x.hand(2, 2), 101);

        Check.rule("A DAY: a 'wage' of 0");
        x = Check.valley("street s;hand h s 1 99;wage 0;");
        x.days(60);
        Check.same("hand(0, 2)", x.hand(0, 2), 99);

        Check.rule("A DAY: COIN 999 at most");
        x = Check.valley("street s;hand a s 1 99;hand b s 1 90;hand c s 1 98;wage 9;");
        x.days(60);
        x.days(40);
        Check.same("hand(0, 2) of 99 and 900", x.hand(0, 2), 999);
        Check.same("hand(1, 2) of 90 and 900", x.hand(1, 2), 990);
        Check.same("hand(2, 2) of 98 and 900", x.hand(2, 2), 998);
        x.days(1);
        Check.same("hand(0, 2)", x.hand(0, 2), 999);
        Check.same("hand(1, 2)", x.hand(1, 2), 999);
        Check.same("hand(2, 2)", x.hand(2, 2), 999);
        x.days(60);
        Check.same("hand(1, 2)", x.hand(1, 2), 999);

        Check.rule("A DAY: it is dry then");
        for (int k = 0; k < 3; k++) {
            x = new ClogVotes();
            x.weather(k);
            x.days(1);
            Check.same("now(1) behind WEATHER " + k, x.now(1), 0);
        }

        Check.rule("A DAY: who is on STRIKE, SAND, what is wanted, what was PUT stay");
        x = lost();
        x.days(60);
        Check.same("now(2)", x.now(2), 2);
        Check.same("way(0, 0)", x.way(0, 0), 20);
        Check.same("wants(1, 0)", x.wants(1, 0), 1);
        Check.same("question(0, 0)", x.question(0, 0), 2);
        Check.same("now(3)", x.now(3), 33);
    }

    private static ClogVotes lastDays(int day) {
        ClogVotes x = Edges.lively();
        for (int left = day; left > 0; left -= 60) {
            x.days(Math.min(60, left));
        }
        Check.same("now(0)", x.now(0), day);
        return x;
    }

    private static void lastDay() {
        Check.rule("A DAY (0 to 399): from 340 all 60 go by, from 341 and 399 those that are left");
        for (int day : new int[] {339, 340, 341, 399}) {
            ClogVotes x = lastDays(day);
            Check.same("days(60) from " + day, x.days(60), Math.min(60, 400 - day));
            Check.same("now(0)", x.now(0), Math.min(day + 60, 400));
        }
        ClogVotes coin = Check.valley("street s;hand h s 1 0;");
        for (int i = 0; i < 6; i++) {
            coin.days(60);
        }
        coin.days(39);
        coin.days(60);
        Check.same("hand(0, 2) behind 400 DAYS", coin.hand(0, 2), 400);

        Check.rule("A DAY (400: no DAY goes by any more)");
        Edges.unchanged("days(1)", () -> lastDays(400), x -> x.days(1), 0);
        Edges.unchanged("days(60)", () -> lastDays(400), x -> x.days(60), 0);
        Edges.unchanged("days(61)", () -> lastDays(400), x -> x.days(61), Check.NONE);
        ClogVotes wet = lastDays(400);
        wet.weather(1);
        wet.days(1);
        Check.same("now(1), it stays wet", wet.now(1), 1);

        Check.rule("A DAY (400: all else can still be done)");
        ClogVotes x = lastDays(400);
        Check.same("buy(0, 1)", x.buy(0, 1), 0);
        Check.same("strike(0)", x.strike(0), 0);
        Check.same("work(1)", x.work(1), 0);
        Check.same("sway(0, 0, 1)", x.sway(0, 0, 1), 0);
        Check.same("lay(1, 1)", x.lay(1, 1), 0);
        Check.same("weather(1)", x.weather(1), 0);
        Check.same("put(0)", x.put(0), 0);
        Check.same("question(0, 1)", x.question(0, 1), 400);
        Check.same("put(1)", x.put(1), 3);
        Check.same("now(7)", x.now(7), 1);
        Check.same("undo()", x.undo(), 7);
        Check.yes("image(0)", x.image(0));
        Check.yes("restore(0)", x.restore(0));
        x.end(0);
        Check.same("book(1)", Check.book(x, "put q;snow;", 1), Check.NONE);
    }
}
