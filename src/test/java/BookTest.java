/** Promises 40 and 41: a book, judged or lived line by line. */
public final class BookTest {
    private static final String LAND = "street s;street t;hand a s 9 10;hand b t 5 20 child;hand c t 19 99;"
            + "question q;question r;wants a q left;wants b q right;wants a r left;grants q t 4;price 3;";

    public static void main(String[] args) {
        why();
        judged();
        lived();
        livedToTheEnd();
        daysLeft();
        toldStays();
        Check.finish("BookTest");
    }

    private static void told(ClogVotes x, int why, int lines, int day, int carried) {
        Check.same("told(0)", x.told(0), why);
        Check.same("told(1)", x.told(1), lines);
        Check.same("told(2)", x.told(2), day);
        Check.same("told(3)", x.told(3), carried);
        Check.same("told(4)", x.told(4), Check.NONE);
        Check.same("told(-1)", x.told(-1), Check.NONE);
    }

    private static void wrong(String text, int line, int why) {
        for (int lives = 0; lives < 2; lives++) {
            ClogVotes x = Check.valley(LAND);
            Check.same("book(" + lives + ") of " + text, Check.book(x, text, lives), line);
            Check.same("told(0) of " + text, x.told(0), why);
            Check.same("told(1) of " + text, x.told(1), line);
        }
    }

    private static void why() {
        wrong("a buys 4;", 0, 1);
        wrong("a buys 3;a buys 1;", 1, 1);
        wrong("c buys 2;", 0, 2);
        wrong("a strikes;a strikes;", 1, 11);
        wrong("a works;", 0, 21);
        wrong("put q;a swayed q right;", 1, 31);
        wrong("a swayed q left;", 0, 32);
        wrong("a swayed q right;b swayed q left;c swayed r right;c swayed r left;c swayed r left;", 4, 32);
        wrong("put q;day 1;put q;", 2, 41);
        wrong("snow;put q;", 1, 42);
        wrong("put q;put r;", 1, 43);
        wrong("lay left 5;lay right 5;lay left 5;", 2, 51);
        wrong("lay right 0;", 0, 51);
        wrong("dry;", 0, 61);
        wrong("wet;wet;", 1, 61);
        wrong("wet;dry;snow;snow;", 3, 61);
        wrong("snow;day 1;dry;", 2, 61);
        wrong("day 60;day 60;day 60;day 60;day 60;day 60;day 41;", 6, 71);
    }

    private static void judged() {
        ClogVotes x = Check.valley(LAND);
        Check.same("told(0) ahead of any", x.told(0), Check.NONE);
        Check.same("book(0)", Check.book(x, "lay right 3;put q;day 7;a strikes;lay left 9;put r;a strikes;day 1;", 0), 6);
        told(x, 11, 6, 7, 1);
        for (int what = 0; what < 8; what++) {
            Check.same("now(" + what + ") stays", x.now(what), what == 3 ? 33 : what == 4 ? 129 : 0);
        }
        Check.same("way(1, 0) stays", x.way(1, 0), 0);
        Check.same("undo()", x.undo(), Check.NONE);
        Check.same("book(0) that is not wrong", Check.book(x, "day 5;\nday 6;", 0), Check.NONE);
        told(x, 0, 2, 11, 0);
        Check.same("now(0)", x.now(0), 0);
    }

    private static void lived() {
        ClogVotes x = Check.valley(LAND);
        Check.same("book(1)", Check.book(x, "lay right 3;put q;day 7;a strikes;lay left 9;put r;a strikes;day 1;", 1), 6);
        told(x, 11, 6, 7, 1);
        Check.same("now(0)", x.now(0), 7);
        Check.same("now(2)", x.now(2), 1);
        Check.same("now(5)", x.now(5), 1);
        Check.same("now(6)", x.now(6), 2);
        Check.same("way(0, 0)", x.way(0, 0), 9);
        Check.same("hand(1, 1)", x.hand(1, 1), 9);
        Check.same("hand(0, 2)", x.hand(0, 2), 17);
        Check.same("undo() of the book", x.undo(), 0);
        Check.same("now(0)", x.now(0), 0);
        Check.same("way(0, 0)", x.way(0, 0), 0);
        told(x, 11, 6, 7, 1);
        Check.same("book(1), wrong at once", Check.book(x, "a works;day 4;", 1), 0);
        told(x, 21, 0, 0, 0);
        Check.same("now(0)", x.now(0), 0);
        Check.same("undo()", x.undo(), Check.NONE);
    }

    private static void livedToTheEnd() {
        ClogVotes x = Check.valley(LAND);
        Check.same("book(1)", Check.book(x, "a buys 3;a strikes;a works;b swayed r right;put r;wet;lay left 20;", 1), Check.NONE);
        told(x, 0, 7, 0, 2);
        Check.same("hand(0, 1)", x.hand(0, 1), 12);
        Check.same("hand(0, 2)", x.hand(0, 2), 1);
        Check.same("wants(1, 1)", x.wants(1, 1), 1);
        Check.same("question(1, 2)", x.question(1, 2), 2);
        Check.same("now(1)", x.now(1), 1);
        Check.same("book(1) of nothing", x.book(1), Check.NONE);
        told(x, 0, 0, 0, 2);
        Check.same("undo() of one book", x.undo(), 0);
        Check.same("hand(0, 1)", x.hand(0, 1), 9);
        Check.same("now(1)", x.now(1), 0);
    }

    private static void daysLeft() {
        ClogVotes x = Check.valley(LAND);
        Check.book(x, Check.times("day 60;", 6) + "day 38;", 1);
        Check.same("now(0)", x.now(0), 398);
        Check.same("book(1) beyond the last day", Check.book(x, "wet;day 3;dry;", 1), 1);
        told(x, 71, 1, 398, 0);
        Check.same("now(0), no day went by", x.now(0), 398);
        Check.same("now(1)", x.now(1), 1);
        Check.same("book(1) to the last day", Check.book(x, "day 2;put r;", 1), Check.NONE);
        told(x, 0, 2, 400, 2);
        Check.same("book(1) on day 400", Check.book(x, "day 1;", 1), 0);
        told(x, 71, 0, 400, 2);
    }

    private static void toldStays() {
        ClogVotes x = Check.valley(LAND);
        Check.book(x, "day 9;a works;", 1);
        Check.same("book() with a fault", Check.book(x, "day 8;a;", 1), -9);
        told(x, 21, 1, 9, 0);
        Check.tell(x, "day 7;");
        Check.same("book(5)", x.book(5), -1000);
        told(x, 21, 1, 9, 0);
        Check.same("now(0)", x.now(0), 9);
        Check.same("the tape stays", x.count(5), 6);
        Check.same("book(1)", x.book(1), Check.NONE);
        Check.same("the tape is empty", x.count(5), 0);
        Check.same("now(0)", x.now(0), 16);
        x.valley();
        told(x, 0, 1, 16, 0);
    }
}
