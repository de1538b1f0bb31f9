/** The edges of promises 1 to 3 and 46: the tape from empty to full, and the counts. */
public final class EdgesOfTapeTest {
    private static final int LEAST = Integer.MIN_VALUE;
    private static final int MOST = Integer.MAX_VALUE;

    public static void main(String[] args) {
        newObject();
        feed();
        feedFull();
        end();
        count();
        manyCalls();
        Check.finish("EdgesOfTapeTest");
    }

    private static void newObject() {
        Check.rule("1: an empty VALLEY");
        ClogVotes x = new ClogVotes();
        int[] counts = {0, 0, 0, 2, 1};
        for (int what = 0; what < counts.length; what++) {
            Check.same("count(" + what + ")", x.count(what), counts[what]);
        }
        for (int what = 0; what < 8; what++) {
            Check.same("now(" + what + ")", x.now(what), 0);
        }
        for (int w = 0; w < 2; w++) {
            Check.same("way(" + w + ", 0)", x.way(w, 0), 0);
            Check.same("way(" + w + ", 1)", x.way(w, 1), 0);
        }
        Check.same("said(NONE)", x.said(Check.NONE), Check.NONE);
        Check.same("undo()", x.undo(), Check.NONE);

        Check.rule("1: an empty tape");
        Check.same("count(5)", new ClogVotes().count(5), 0);
        Check.no("end(1)", new ClogVotes().end(1));
        Check.same("valley()", new ClogVotes().valley(), 0);
        Check.same("sentence()", new ClogVotes().sentence(), -1);

        Check.rule("1: each object is one of its own");
        ClogVotes other = Edges.lively();
        other.strike(0);
        Check.sameText("what is so in a new object", Edges.isSo(new ClogVotes()), Edges.isSo(x));
        Check.sameText("what was told in a new object", Edges.wasTold(new ClogVotes()), "0 0 -1 -1 -1 -1 -1 -1 -1 -1 ");
    }

    private static void feed() {
        Check.rule("2: twenty bytes come behind the tape");
        ClogVotes x = Check.valley("street s;hand a s 12 0;");
        Check.same("feed of an empty tape", x.feed(7 << 24, 0, 0, 0, 0), 20);
        Check.same("count(5)", x.count(5), 20);
        Check.yes("end(1)", x.end(1));
        Check.same("feed behind one byte", x.feed(5 << 24, 0, 0, 0, 0), 21);
        Check.same("count(5)", x.count(5), 21);
        Check.yes("end(2)", x.end(2));
        Check.same("heard() of bytes 7, 5", x.heard(), 1);
        Check.same("surely()", x.surely(), 1);

        Check.rule("2: of each number the highest first");
        x = new ClogVotes();
        x.feed(0x71756573, 0x74696f6e, 0x20616263, 0x64656667, 0x683b2020);
        Check.same("valley() of 'question abcdefgh;  '", x.valley(), 1);
        Check.sameText("crier(0)", Check.cry(x, 0), "abcdefgh is open");

        Check.rule("2: bytes of numbers below 0, of the least and the greatest");
        heardOf(0xFF00FFFF, 255, 0);
        heardOf(LEAST, 128, 0);
        heardOf(MOST, 127, 255);
        heardOf(0x00FFFFFF, 0, 255);
        heardOf(-1, 255, 255);
        ClogVotes full = new ClogVotes();
        Check.same("feed(-1, -1, -1, -1, -1)", full.feed(-1, -1, -1, -1, -1), 20);
        Check.same("valley() of bytes 255", full.valley(), -1);
        Check.same("fault()", full.fault(), 1);
    }

    /** One hand of 20 irons, heard as the first two bytes of a number tell. */
    private static void heardOf(int number, int loud, int off) {
        ClogVotes x = Check.valley("street s;hand a s 20 0;");
        x.feed(number, 0, 0, 0, 0);
        x.end(2);
        int due = (loud <= off ? 1 : 0) + (Math.abs(20 - loud) <= off ? 1 : 0);
        Check.same("heard() of " + loud + ", " + off, x.heard(), due);
    }

    private static void feedFull() {
        Check.rule("2: how many it has, up to 940");
        ClogVotes x = new ClogVotes();
        for (int i = 1; i <= 47; i++) {
            Check.same("feed " + i, x.feed(i, 0, -1, MOST, LEAST), 20 * i);
        }
        Check.same("count(5)", x.count(5), 940);

        Check.rule("2: NONE if it would have more than 940");
        for (int had = 920; had <= 940; had++) {
            x = new ClogVotes();
            fill(x, had);
            Check.same("feed behind " + had, x.feed(1, 2, 3, 4, 5), had == 920 ? 940 : Check.NONE);
        }

        Check.rule("2: and none come then");
        x = new ClogVotes();
        Check.tell(x, Check.times(" ", 12) + "question last;");
        fill(x, 921);
        Check.same("feed behind 921", x.feed(-1, -1, -1, -1, -1), Check.NONE);
        Check.same("count(5)", x.count(5), 921);
        Check.no("end(922)", x.end(922));
        Check.yes("end(900)", x.end(900));
        Check.same("valley() of what was there", x.valley(), 1);

        Check.rule("2: twenty bytes come again when there is room");
        x = new ClogVotes();
        fill(x, 940);
        x.feed(1, 2, 3, 4, 5);
        Check.yes("end(919)", x.end(919));
        Check.same("feed behind 919", x.feed(1, 2, 3, 4, 5), 939);
    }

    /** Blanks behind what is on the tape, until it has so many bytes. */
    private static void fill(ClogVotes x, int bytes) {
        Check.tell(x, Check.times(" ", bytes - x.count(5)));
    }

    private static void end() {
        Check.rule("3: the tape has its first n bytes alone: true");
        ClogVotes x = new ClogVotes();
        Check.tell(x, "question one;question two;");
        Check.yes("end(26), all", x.end(26));
        Check.same("count(5)", x.count(5), 26);
        Check.yes("end(13)", x.end(13));
        Check.same("count(5)", x.count(5), 13);
        Check.same("valley()", x.valley(), 1);
        Check.sameText("crier(0)", Check.cry(x, 0), "one is open");

        Check.rule("3: none of its bytes: true");
        x = new ClogVotes();
        Check.tell(x, "question one;");
        Check.yes("end(0)", x.end(0));
        Check.same("count(5)", x.count(5), 0);
        Check.yes("end(0) of an empty tape", x.end(0));

        Check.rule("3: what was cut off does not come back");
        x = new ClogVotes();
        Check.tell(x, "question one;");
        x.end(12);
        Check.no("end(13)", x.end(13));
        Check.same("valley()", x.valley(), -13);
        Check.tell(x, "childish or 5");
        x.end(5);
        Check.same("sentence() of a WORD cut off", x.sentence(), 1);
        Check.tell(x, "price 7777;");
        x.end(7);
        Check.tell(x, ";");
        Check.same("valley() of a NUMBER cut off", x.valley(), 1);
        Check.same("count(3)", x.count(3), 7);

        Check.rule("3: false, if it has not so many");
        Edges.unchanged("end(4)", y -> y.end(4) ? 1 : 0, 0);
        Edges.unchanged("end(20)", y -> y.end(20) ? 1 : 0, 0);
        Edges.unchanged("end of the greatest", y -> y.end(MOST) ? 1 : 0, 0);
        Edges.unchanged("end(1) of an empty tape", ClogVotes::new, y -> y.end(1) ? 1 : 0, 0);
        x = new ClogVotes();
        fill(x, 940);
        Check.no("end(941) of a full tape", x.end(941));
        Check.yes("end(940) of a full tape", x.end(940));

        Check.rule("3: false, if n is below 0");
        Edges.unchanged("end(-1)", y -> y.end(-1) ? 1 : 0, 0);
        Edges.unchanged("end of the least", y -> y.end(LEAST) ? 1 : 0, 0);
        Edges.unchanged("end(-1) of an empty tape", ClogVotes::new, y -> y.end(-1) ? 1 : 0, 0);
    }

    private static void count() {
        Check.rule("46: 0 STREETS, 1 HANDS, 2 QUESTIONS, as many as there may be");
        ClogVotes x = Check.valley("street a;street b;street c;street d;street e;hand f a 0 0;hand g a 0 0;hand h a 0 0;"
                + "hand i a 0 0;hand j a 0 0;hand k a 0 0;hand l a 0 0;hand m a 0 0;hand n a 0 0;hand o a 0 0;"
                + "question p;question q;question r;question s;question t;");
        Check.same("count(0)", x.count(0), 5);
        Check.same("count(1)", x.count(1), 10);
        Check.same("count(2)", x.count(2), 5);

        Check.rule("46: 3 'price', 4 'wage', the least and the greatest");
        x = Check.valley("price 1;wage 0;");
        Check.same("count(3)", x.count(3), 1);
        Check.same("count(4)", x.count(4), 0);
        x = Check.valley("price 9;wage 9;");
        Check.same("count(3)", x.count(3), 9);
        Check.same("count(4)", x.count(4), 9);

        Check.rule("46: 5 bytes of the tape");
        x = new ClogVotes();
        fill(x, 940);
        Check.same("count(5) of a full tape", x.count(5), 940);
        x.end(1);
        Check.same("count(5) of one byte", x.count(5), 1);

        Check.rule("46: NONE for another what");
        for (int what : Edges.beyond(6)) {
            Edges.unchanged("count(" + what + ")", y -> y.count(what), Check.NONE);
        }
    }

    private static void manyCalls() {
        Check.rule("An object is used for at most 512 calls: the 512th answers as all ahead of it");
        ClogVotes x = new ClogVotes();
        for (int call = 1; call <= 509; call++) {
            Check.same("lay(0, n), call " + call, x.lay(0, call % 20 + 1), 0);
        }
        Check.same("undo(), call 510", x.undo(), 7);
        Check.same("way(0, 0), call 511", x.way(0, 0), 508 % 20 + 1);
        Check.same("undo(), call 512", x.undo(), 6);
    }
}
