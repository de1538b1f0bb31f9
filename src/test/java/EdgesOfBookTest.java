/** The edges of promises 40 and 41: a book judged or lived, why a line is wrong, what is told of it then. */
public final class EdgesOfBookTest {
    public static void main(String[] args) {
        lives();
        empty();
        numbers();
        answers();
        buying();
        others();
        putting();
        weather();
        fewerDays();
        judged();
        lived();
        notLived();
        told();
        toldThen();
        toldStays();
        Check.finish("EdgesOfBookTest");
    }

    private static ClogVotes land() {
        return Check.valley(Edges.LAND);
    }

    /** The book's line is wrong for a reason, judged or lived; all ahead of it is not. */
    private static void wrong(String more, String text, int line, int why) {
        for (int lives = 0; lives < 2; lives++) {
            ClogVotes x = Check.valley(Edges.LAND + more);
            Check.same("book(" + lives + ") of " + text, Check.book(x, text, lives), line);
            Check.same("told(0) of " + text, x.told(0), why);
            Check.same("told(1) of " + text, x.told(1), line);
            Check.same("fault() of " + text, x.fault(), 0);
        }
    }

    private static void right(String more, String text, int lines) {
        for (int lives = 0; lives < 2; lives++) {
            ClogVotes x = Check.valley(Edges.LAND + more);
            Check.same("book(" + lives + ") of " + text, Check.book(x, text, lives), Check.NONE);
            Check.same("told(0) of " + text, x.told(0), 0);
            Check.same("told(1) of " + text, x.told(1), lines);
        }
    }

    private static void lives() {
        Check.rule("40: -1000: another lives (the tape stays)");
        for (int lives : new int[] {Integer.MIN_VALUE, -1000, -1, 2, 3, Integer.MAX_VALUE}) {
            Edges.unchanged("book(" + lives + ")", x -> x.book(lives), -1000);
            Edges.unchanged("book(" + lives + ") of an empty tape", ClogVotes::new, x -> x.book(lives), -1000);
        }
        ClogVotes x = land();
        Check.tell(x, "day 2;");
        x.book(2);
        Check.same("book(1) of the tape that stayed", x.book(1), Check.NONE);
        Check.same("now(0)", x.now(0), 2);

        Check.rule("40: the tape is empty then, judged, lived, WRONG or with a FAULT");
        for (String text : new String[] {"", "day 2;", "a works;", "x", Check.times(" ", 940)}) {
            for (int lives = 0; lives < 2; lives++) {
                x = land();
                Check.book(x, text, lives);
                Check.same("count(5) behind book(" + lives + ") of " + text, x.count(5), 0);
            }
        }
    }

    private static void empty() {
        Check.rule("40: an empty text is a BOOK without LINES: NONE");
        for (String text : new String[] {"", " ", "\n\n ", Check.times(" ", 400)}) {
            for (int lives = 0; lives < 2; lives++) {
                ClogVotes x = land();
                String ahead = Edges.isSo(x);
                Check.same("book(" + lives + ")", Check.book(x, text, lives), Check.NONE);
                Check.same("told(0)", x.told(0), 0);
                Check.same("told(1)", x.told(1), 0);
                Check.sameText("what is so", Edges.isSo(x), ahead);
            }
        }
        Check.same("book(0) of a new object", new ClogVotes().book(0), Check.NONE);

        Check.rule("BOOK: one LINE, and 40");
        right("", "day 1;", 1);
        right("", Check.times("day 1;", 40), 40);
        right("", Check.times("wet;dry;", 20), 40);
        right("", Check.times("wet;dry;", 20) + Check.times(" \n", 100), 40);
    }

    private static void fault(String text, int place, int kind) {
        ClogVotes x = land();
        Check.same("book(0) of " + text, Check.book(x, text, 0), -2 - place);
        Check.same("fault() of " + text, x.fault(), kind);
        Check.same("told(0) of " + text, x.told(0), Check.NONE);
    }

    private static void numbers() {
        Check.rule("BOOK: N of 'buys' 1 to 20");
        fault("a buys 0;", 7, 2);
        fault("a buys 21;", 7, 2);
        right("hand d s 0 99;", "d buys 1;", 1);
        wrong("", "a buys 20;", 0, 1);

        Check.rule("BOOK: N of 'lay' 0 to 20");
        fault("lay left 21;", 9, 2);
        right("", "lay left 20;lay left 0;lay right 20;lay right 0;", 4);

        Check.rule("BOOK: N of 'day' 1 to 60");
        fault("day 0;", 4, 2);
        fault("day 61;", 4, 2);
        right("", "day 1;day 60;", 2);
    }

    private static void answers() {
        Check.rule("40: the LINE that is WRONG (from 0): the first, the last of 40");
        wrong("", "a works;day 1;", 0, 21);
        wrong("", Check.times("day 1;", 39) + "a works;", 39, 21);
        wrong("", "day 1;a works;b works;", 1, 21);

        Check.rule("40: NONE: none");
        right("", "a buys 1;a strikes;a works;a swayed q right;put q;lay left 1;wet;snow;dry;day 1;", 10);

        Check.rule("40: -2 less the place of a FAULT");
        fault("x", 0, 3);
        fault(" x", 1, 3);
        fault("a works;?", 8, 1);
        fault("dry", 3, 1);
    }

    private static void buying() {
        Check.rule("41: 0 why it was WRONG: as for buying: 1, 2, the least");
        wrong("", "a buys 4;", 0, 1);
        wrong("", "a buys 3;a buys 1;", 1, 1);
        wrong("", "c buys 2;", 0, 2);
        wrong("", "c buys 20;", 0, 2);
        wrong("hand d s 20 2;", "d buys 1;", 0, 1);
        right("", "a buys 3;", 1);
        right("", "c buys 1;", 1);
    }

    private static void others() {
        Check.rule("41: 0 why it was WRONG: 10 more as for striking");
        wrong("", "b strikes;b strikes;", 1, 11);

        Check.rule("41: 0 why it was WRONG: 20 for working");
        wrong("", "b works;", 0, 21);
        wrong("", "b strikes;b works;b works;", 2, 21);

        Check.rule("41: 0 why it was WRONG: 30 for swaying: 1, 2, the least");
        wrong("", "put q;a swayed q right;", 1, 31);
        wrong("", "put q;a swayed q left;", 1, 31);
        wrong("", "a swayed q left;", 0, 32);
        wrong("", "b swayed q right;", 0, 32);
        right("", "c swayed q left;c swayed q right;", 2);

        Check.rule("41: 0 why it was WRONG: 50 for laying");
        wrong("", "lay left 0;", 0, 51);
        wrong("", "lay right 0;", 0, 51);
        wrong("", "lay right 20;lay right 20;", 1, 51);
        right("", "lay right 20;lay left 20;", 2);
    }

    private static void putting() {
        Check.rule("41: 0 why it was WRONG: 40 for putting: 1, 2, 3, the least");
        wrong("", "put q;day 1;put q;", 2, 41);
        wrong("", "snow;put q;", 1, 42);
        wrong("", "put q;put r;", 1, 43);
        wrong("", "put q;put q;", 1, 41);
        wrong("", "put q;snow;put q;", 2, 41);
        wrong("", "put q;snow;put r;", 2, 42);
        right("", "put q;day 1;put r;day 1;wet;put p;", 6);
        right("", "snow;day 1;put q;", 3);
    }

    private static void weather() {
        Check.rule("41: 0 why it was WRONG: 60 for WEATHER");
        wrong("", "dry;", 0, 61);
        wrong("", "wet;wet;", 1, 61);
        wrong("", "snow;snow;", 1, 61);
        wrong("", "wet;day 1;dry;", 2, 61);
        right("", "wet;dry;snow;dry;snow;wet;snow;", 7);
    }

    private static ClogVotes on(int day) {
        ClogVotes x = land();
        for (int left = day; left > 0; left -= 60) {
            x.days(Math.min(60, left));
        }
        return x;
    }

    private static void fewerDays() {
        Check.rule("41: 71: fewer DAYS are left, and none of them goes by");
        for (int lives = 0; lives < 2; lives++) {
            ClogVotes x = on(398);
            Check.same("book(" + lives + ")", Check.book(x, "wet;day 3;dry;", lives), 1);
            Check.same("told(0)", x.told(0), 71);
            Check.same("told(1)", x.told(1), 1);
            Check.same("told(2)", x.told(2), 398);
            Check.same("now(0)", x.now(0), 398);
            Check.same("now(1)", x.now(1), lives);
        }

        Check.rule("41: just as many DAYS are left");
        ClogVotes x = on(398);
        Check.same("book(1)", Check.book(x, "day 2;", 1), Check.NONE);
        Check.same("told(0)", x.told(0), 0);
        Check.same("told(2)", x.told(2), 400);
        x = on(340);
        Check.same("book(1)", Check.book(x, "day 60;", 1), Check.NONE);
        x = on(341);
        Check.same("book(1)", Check.book(x, "day 60;", 1), 0);
        Check.same("told(0)", x.told(0), 71);

        Check.rule("41: on DAY 400 no DAY is left, all else can be lived");
        x = on(400);
        Check.same("book(1)", Check.book(x, "put q;wet;a strikes;day 1;", 1), 3);
        Check.same("told(0)", x.told(0), 71);
        Check.same("now(7)", x.now(7), 1);
        Check.same("now(2)", x.now(2), 1);
    }

    private static final String LONG = "a buys 2;b strikes;c swayed q left;lay right 4;put q;day 3;wet;a works;snow;";

    private static void judged() {
        Check.rule("40: it is judged, all staying as it is (lives 0)");
        ClogVotes x = Edges.lively();
        x.work(1);
        x.end(0);
        String ahead = Edges.isSo(x);
        Check.same("book(0)", Check.book(x, LONG, 0), 7);
        Check.sameText("what is so", Edges.isSo(x), ahead);
        Check.same("book(0) again", Check.book(x, LONG, 0), 7);
        Check.same("told(2)", x.told(2), 3);
        Check.same("undo()", x.undo(), 2);

        Check.rule("40: judged from what is so now");
        x = land();
        x.strike(0);
        Check.same("book(0)", Check.book(x, LONG, 0), Check.NONE);
        Check.same("told(1)", x.told(1), 9);
    }

    private static void lived() {
        Check.rule("40: lived as far as it is not WRONG (1)");
        ClogVotes x = land();
        ClogVotes y = land();
        Check.same("book(1)", Check.book(x, LONG, 1), 7);
        y.buy(0, 2);
        y.strike(1);
        y.sway(2, 0, 0);
        y.lay(1, 4);
        y.put(0);
        y.days(3);
        y.weather(1);
        Check.sameText("what is so", Edges.isSo(x), Edges.isSo(y));
        Check.same("undo() of all of it", x.undo(), 0);
        Check.sameText("what is so", Edges.isSo(x), Edges.isSo(land()));

        Check.rule("40: lived to its end");
        x = land();
        x.strike(0);
        Check.same("book(1)", Check.book(x, LONG, 1), Check.NONE);
        Check.same("now(1)", x.now(1), 2);
        Check.same("now(2)", x.now(2), 2);
        Check.same("now(0)", x.now(0), 3);
    }

    private static void notLived() {
        Check.rule("40: nothing of a BOOK with a FAULT is lived, of one WRONG at once nothing");
        for (String text : new String[] {"wet;a strikes;x", "wet;day 61;", "a strikes;" + Check.times("wet;", 40), "a works;wet;"}) {
            ClogVotes x = Edges.lively();
            x.end(0);
            String ahead = Edges.isSo(x);
            Check.same("book(1) of " + text, Check.book(x, text, 1) == Check.NONE ? 1 : 0, 0);
            Check.sameText("what is so behind book(1) of " + text, Edges.isSo(x), ahead);
            Edges.sameUndone("book(1)", x, Edges.lively());
        }

        Check.rule("40: nothing of a LINE that is WRONG is lived");
        ClogVotes x = land();
        Check.same("book(1)", Check.book(x, "a strikes;a buys 20;a works;", 1), 1);
        Check.same("hand(0, 1)", x.hand(0, 1), 9);
        Check.same("hand(0, 2)", x.hand(0, 2), 10);
        Check.same("now(2)", x.now(2), 1);
    }

    private static void told() {
        Check.rule("41: NONE ahead of any");
        ClogVotes x = new ClogVotes();
        for (int what = -1; what < 5; what++) {
            Check.same("told(" + what + ")", x.told(what), Check.NONE);
        }

        Check.rule("41: NONE ahead of any that had no FAULT (and was not -1000)");
        Check.book(x, "x", 0);
        Check.book(x, "wet;x", 1);
        x.book(2);
        for (int what = 0; what < 4; what++) {
            Check.same("told(" + what + ")", x.told(what), Check.NONE);
        }

        Check.rule("41: NONE: another what");
        for (int what : Edges.beyond(4)) {
            Edges.unchanged("told(" + what + ")", y -> y.told(what), Check.NONE);
        }

        Check.rule("41: 1 how many LINES are ahead of the one that is WRONG (all, if none is)");
        x = land();
        Check.book(x, "a works;", 0);
        Check.same("told(1) of the first", x.told(1), 0);
        Check.book(x, "wet;snow;dry;b works;dry;", 0);
        Check.same("told(1) of the fourth", x.told(1), 3);
        Check.book(x, "wet;snow;dry;", 0);
        Check.same("told(1) of none", x.told(1), 3);
        Check.book(x, "", 0);
        Check.same("told(1) of no LINES", x.told(1), 0);
    }

    private static void toldThen() {
        Check.rule("41: 2 the DAY then: at the LINE that is WRONG, or the end");
        ClogVotes x = on(5);
        Check.book(x, "a works;day 9;", 0);
        Check.same("told(2) of the first", x.told(2), 5);
        Check.book(x, "day 9;a works;day 8;", 0);
        Check.same("told(2) of the second", x.told(2), 14);
        Check.book(x, "day 9;day 8;", 0);
        Check.same("told(2) of none", x.told(2), 22);
        Check.book(x, "", 0);
        Check.same("told(2) of no LINES", x.told(2), 5);

        Check.rule("41: 3 QUESTIONS that are CARRIED then, as bits: those CARRIED ahead of it too, LOST not");
        x = land();
        Check.book(x, "put r;day 1;lay left 20;put q;day 1;a works;lay left 0;put p;", 0);
        Check.same("told(3): r", x.told(3), 2);
        x.put(1);
        x.days(1);
        Check.book(x, "put p;", 0);
        Check.same("told(3): r ahead of it, p", x.told(3), 6);
        Check.book(x, "", 0);
        Check.same("told(3): r ahead of it", x.told(3), 2);
        Check.book(x, "a works;put p;", 1);
        Check.same("told(3): r ahead of it", x.told(3), 2);
        x = Check.valley("street s;hand z s 1 0;question a;question b;question c;question d;question e;"
                + "wants z a left;wants z b left;wants z c left;wants z d left;wants z e left;");
        Check.book(x, "put a;day 1;put b;day 1;put c;day 1;put d;day 1;put e;", 0);
        Check.same("told(3): all five", x.told(3), 31);
    }

    private static void toldStays() {
        Check.rule("41: of the latest book() that had no FAULT (and was not -1000)");
        ClogVotes x = land();
        Check.book(x, "put r;day 9;a works;", 1);
        int[] due = {21, 2, 9, 2};
        Check.book(x, "day 8;a;", 0);
        Check.tell(x, "day 7;");
        x.book(-3);
        x.end(0);
        x.days(20);
        x.strike(0);
        x.undo();
        x.valley();
        for (int what = 0; what < 4; what++) {
            Check.same("told(" + what + ")", x.told(what), due[what]);
        }
        Check.book(x, "wet;", 0);
        due = new int[] {0, 1, 0, 0};
        for (int what = 0; what < 4; what++) {
            Check.same("told(" + what + ") of the next one", x.told(what), due[what]);
        }
    }
}
