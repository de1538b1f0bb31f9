/** Promises 1 to 4 and 46: a new object, the tape, a plain valley, the counts. */
public final class TapeTest {
    public static void main(String[] args) {
        newObject();
        feeding();
        ending();
        plainValley();
        newValley();
        nothingLeftOver();
        Check.finish("TapeTest");
    }

    private static void newObject() {
        ClogVotes x = new ClogVotes();
        int[] counts = {0, 0, 0, 2, 1, 0};
        for (int what = 0; what < 6; what++) {
            Check.same("count(" + what + ") of a new object", x.count(what), counts[what]);
        }
        Check.same("count(6)", x.count(6), Check.NONE);
        Check.same("count(-1)", x.count(-1), Check.NONE);
        for (int what = 0; what < 8; what++) {
            Check.same("now(" + what + ") of a new object", x.now(what), 0);
        }
        Check.same("fault() ahead of any", x.fault(), 0);
        Check.same("way(0, 0)", x.way(0, 0), 0);
        Check.same("way(1, 1)", x.way(1, 1), 0);
        Check.no("restore(1) of a new object", x.restore(1));
        Check.same("book() of an empty tape", x.book(0), Check.NONE);
        Check.same("told(1) of an empty book", x.told(1), 0);
    }

    private static void feeding() {
        ClogVotes x = new ClogVotes();
        for (int i = 1; i <= 47; i++) {
            Check.same("feed " + i, x.feed(-1, 0, 5, 7, i), 20 * i);
        }
        Check.same("feed beyond 940", x.feed(1, 2, 3, 4, 5), Check.NONE);
        Check.same("count(5) of a full tape", x.count(5), 940);
        Check.yes("end(921)", x.end(921));
        Check.same("feed to 941", x.feed(1, 2, 3, 4, 5), Check.NONE);
        Check.same("count(5) then", x.count(5), 921);
        Check.yes("end(920)", x.end(920));
        Check.same("feed to 940", x.feed(1, 2, 3, 4, 5), 940);

        // the highest byte first: 'name 120 of hands, off by 3'
        ClogVotes y = Check.valley("street s;hand a s 20 0 child;hand b s 19 0 child;hand c s 20 0 child;"
                + "hand d s 20 0 child;");
        y.feed(117 << 24 | 2 << 16 | 9 << 8 | 9, -1, -1, -1, -1);
        y.end(2);
        Check.same("heard() of bytes 117, 2", y.heard(), 3);
        y.feed(0xA0000000, 0, 0, 0, 0);
        y.end(2);
        Check.same("heard() of bytes 160, 0", y.heard(), 0);
        y.feed(0x9E000000, 0, 0, 0, 0);
        y.end(2);
        Check.same("heard() of bytes 158, 0", y.heard(), 1);
    }

    private static void ending() {
        ClogVotes x = new ClogVotes();
        Check.yes("end(0) of an empty tape", x.end(0));
        Check.no("end(1) of an empty tape", x.end(1));
        Check.no("end(-1)", x.end(-1));
        Check.tell(x, "street here;hand now here 3 4;");
        Check.no("end(31)", x.end(31));
        Check.same("count(5)", x.count(5), 30);
        Check.no("end of the least number", x.end(Integer.MIN_VALUE));
        Check.yes("end(30)", x.end(30));
        Check.yes("end(12)", x.end(12));
        Check.same("valley() of what is left", x.valley(), 1);
        Check.same("count(5) behind valley()", x.count(5), 0);
    }

    private static void plainValley() {
        ClogVotes x = Check.valley("street low;street high;hand amos high 7 99;hand ada low 20 0 child;\n"
                + "question bread ; question pay;wants ada bread left;wants amos bread right;"
                + "grants bread low 9;grants pay high 1;sand left 20;echo right 99;price 9;wage 0;");
        int[] counts = {2, 2, 2, 9, 0, 0};
        for (int what = 0; what < 6; what++) {
            Check.same("count(" + what + ")", x.count(what), counts[what]);
        }
        Check.same("fault()", x.fault(), 0);
        Check.same("hand(0, 0)", x.hand(0, 0), 1);
        Check.same("hand(1, 0)", x.hand(1, 0), 0);
        Check.same("hand(0, 3)", x.hand(0, 3), 0);
        Check.same("hand(1, 3)", x.hand(1, 3), 1);
        Check.same("way(0, 0)", x.way(0, 0), 20);
        Check.same("way(0, 1)", x.way(0, 1), 0);
        Check.same("way(1, 0)", x.way(1, 0), 0);
        Check.same("way(1, 1)", x.way(1, 1), 99);
        Check.same("grants(0, 0)", x.grants(0, 0), 9);
        Check.same("grants(1, 1)", x.grants(1, 1), 1);
    }

    private static void newValley() {
        ClogVotes x = Check.valley("street s;hand h s 5 50;question q;wants h q left;price 3;wage 7;sand left 1;echo left 2;");
        Check.same("sentence()", Check.sentence(x, "child"), 1);
        x.strike(0);
        x.work(0);
        x.put(0);
        x.days(3);
        x.weather(2);
        x.strike(0);
        Check.tell(x, "street 5");
        Check.same("valley() with a fault", x.valley(), -8);
        Check.same("the day stays", x.now(0), 3);
        Check.same("the sentence stays", x.said(Check.NONE), 0);
        Check.same("the price stays", x.count(3), 3);
        Check.same("what was done can still be undone", x.undo(), 5);
        Check.tell(x, "question why;");
        Check.same("valley()", x.valley(), 1);
        for (int what = 0; what < 8; what++) {
            Check.same("now(" + what + ") of a new valley", x.now(what), 0);
        }
        int[] counts = {0, 0, 1, 2, 1, 0};
        for (int what = 0; what < 6; what++) {
            Check.same("count(" + what + ") of a new valley", x.count(what), counts[what]);
        }
        Check.same("question(0, 0)", x.question(0, 0), 0);
        Check.same("question(0, 1)", x.question(0, 1), Check.NONE);
        Check.same("question(0, 2)", x.question(0, 2), Check.NONE);
        Check.same("question(0, 3)", x.question(0, 3), 0);
        Check.same("way(0, 0)", x.way(0, 0), 0);
        Check.same("way(0, 1)", x.way(0, 1), 0);
        Check.same("undo()", x.undo(), Check.NONE);
        Check.same("said() without a sentence", x.said(Check.NONE), Check.NONE);
        Check.same("valley() of an empty tape", x.valley(), 0);
        Check.same("count(2)", x.count(2), 0);
    }

    private static void nothingLeftOver() {
        String names = "street s;hand a s 1 2%;hand b s 3 4;question q;question r;";
        ClogVotes x = Check.valley(names.replace("%", " child") + "wants a q right;wants b q left;wants b r right;"
                + "grants q s 4;grants r s 5;sand left 6;sand right 7;echo left 8;echo right 9;price 9;wage 9;");
        Check.tell(x, names.replace("%", " child") + "wants a q left;wants a r right;grants q s 1;sand left 1;sand right 2;"
                + "echo left 3;echo right 4;price 5;wage 6;wage 7;");
        Check.yes("valley() with a fault at its end", x.valley() < 0);
        Check.same("grants(1, 0) stays", x.grants(1, 0), 5);
        Check.tell(x, names.replace("%", ""));
        Check.same("valley()", x.valley(), 5);
        for (int q = 0; q < 2; q++) {
            Check.same("grants(" + q + ", 0)", x.grants(q, 0), 0);
            for (int h = 0; h < 2; h++) {
                Check.same("wants(" + h + ", " + q + ")", x.wants(h, q), -2);
                Check.same("hand(" + h + ", 3)", x.hand(h, 3), 0);
            }
        }
        for (int w = 0; w < 2; w++) {
            Check.same("way(" + w + ", 0)", x.way(w, 0), 0);
            Check.same("way(" + w + ", 1)", x.way(w, 1), 0);
        }
        Check.same("count(3)", x.count(3), 2);
        Check.same("count(4)", x.count(4), 1);
        Check.tell(x, "sand left 6;echo right 8;price 3;wage 2;");
        Check.same("what was told in another valley can be told", x.valley(), 4);
    }
}
