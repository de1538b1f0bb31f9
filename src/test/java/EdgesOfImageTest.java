/** The edges of promises 44 and 45: places that are none, empty, kept in again, and what they bring back. */
public final class EdgesOfImageTest {
    public static void main(String[] args) {
        noSuch();
        nothingKept();
        kept();
        again();
        whatIsKept();
        whatStays();
        Check.finish("EdgesOfImageTest");
    }

    private static int asNumber(boolean answer) {
        return answer ? 1 : 0;
    }

    private static void noSuch() {
        Check.rule("44: false: no such one");
        for (int k : Edges.beyond(2)) {
            Edges.unchanged("image(" + k + ")", x -> asNumber(x.image(k)), 0);
        }
        ClogVotes x = new ClogVotes();
        x.image(2);
        x.image(-1);
        Check.no("restore(0)", x.restore(0));
        Check.no("restore(1)", x.restore(1));

        Check.rule("45: false: no such one");
        for (int k : Edges.beyond(2)) {
            Edges.unchanged("restore(" + k + ")", y -> asNumber(y.restore(k)), 0);
        }
    }

    private static void nothingKept() {
        Check.rule("45: false: nothing is kept there");
        Edges.unchanged("restore(0)", x -> asNumber(x.restore(0)), 0);
        Edges.unchanged("restore(0) of a new object", ClogVotes::new, x -> asNumber(x.restore(0)), 0);
        Edges.unchanged("restore(1) of a new object", ClogVotes::new, x -> asNumber(x.restore(1)), 0);
        ClogVotes x = new ClogVotes();
        x.image(0);
        Check.no("restore(1) behind image(0)", x.restore(1));
        Check.yes("restore(0) behind image(0)", x.restore(0));
    }

    private static void kept() {
        Check.rule("44: true, in both places; what is so stays");
        for (int k = 0; k < 2; k++) {
            int place = k;
            Edges.unchanged("image(" + k + ")", x -> asNumber(x.image(place)), 1);
        }

        Check.rule("44: an empty VALLEY is kept");
        ClogVotes x = new ClogVotes();
        Check.yes("image(1)", x.image(1));
        Check.tell(x, Edges.LAND);
        x.valley();
        Check.sentence(x, "child");
        Check.yes("restore(1)", x.restore(1));
        Check.sameText("what is so", Edges.isSo(x), Edges.isSo(new ClogVotes()));
        Check.same("said(NONE)", x.said(Check.NONE), Check.NONE);

        Check.rule("44: two places, each of its own");
        x = Check.valley(Edges.LAND);
        x.image(0);
        x.strike(0);
        x.image(1);
        x.strike(2);
        Check.yes("restore(0)", x.restore(0));
        Check.same("now(2)", x.now(2), 0);
        Check.yes("restore(1)", x.restore(1));
        Check.same("now(2)", x.now(2), 1);
        Check.yes("restore(0)", x.restore(0));
        Check.same("now(2)", x.now(2), 0);
    }

    private static void again() {
        Check.rule("44: kept again, what was kept there is no more");
        ClogVotes x = Check.valley(Edges.LAND);
        x.image(0);
        x.strike(0);
        x.image(0);
        x.work(0);
        Check.yes("restore(0)", x.restore(0));
        Check.same("now(2)", x.now(2), 1);

        Check.rule("45: as often as one likes, whatever was done behind it");
        for (int i = 0; i < 3; i++) {
            x.strike(1);
            x.days(60);
            x.buy(0, 1);
            x.put(0);
            x.sway(2, 1, 0);
            x.lay(0, 5 + i);
            Check.yes("restore(0)", x.restore(0));
            ClogVotes y = Check.valley(Edges.LAND);
            y.strike(0);
            Check.sameText("what is so", Edges.isSo(x), Edges.isSo(y));
        }
    }

    private static ClogVotes much() {
        ClogVotes x = Edges.lively();
        x.put(0);
        x.days(4);
        x.sway(0, 1, 1);
        x.put(1);
        x.buy(2, 1);
        x.weather(2);
        x.end(0);
        return x;
    }

    private static void whatIsKept() {
        Check.rule("44: VALLEY, all that is so and the SENTENCE are kept");
        ClogVotes x = much();
        x.image(0);
        Check.tell(x, "street v;hand u v 20 0 child;question w;question z;wants u z left;grants z v 3;sand left 9;echo right 9;price 1;wage 9;");
        Check.same("valley()", x.valley(), 10);
        Check.sentence(x, "of v");
        x.put(1);
        Check.yes("restore(0)", x.restore(0));
        Check.sameText("what is so", Edges.isSo(x), Edges.isSo(much()));

        Check.rule("44: NAMES are kept");
        x.end(0);
        Check.sameText("crier(2)", Check.cry(x, 2), "p is open");
        Check.same("book(0)", Check.book(x, "a strikes;b works;c swayed p right;", 0), Check.NONE);
        Check.same("book(0) of names of the other", Check.book(x, "u strikes;", 0), -2);
        Check.same("sentence()", Check.sentence(x, "of t or for r"), 2);

        Check.rule("44: a VALLEY without a SENTENCE brings none");
        x = Check.valley(Edges.LAND);
        x.image(0);
        Check.sentence(x, "child");
        x.restore(0);
        Check.same("said(NONE)", x.said(Check.NONE), Check.NONE);
    }

    private static void whatStays() {
        Check.rule("45: the tape, and what other calls told last, stays");
        ClogVotes x = Edges.lively();
        String ahead = Edges.wasTold(x);
        Check.yes("restore(1)", x.restore(1));
        Check.sameText("what was told", Edges.wasTold(x), ahead);
        Check.same("count(5)", x.count(5), 3);
        x = new ClogVotes();
        x.image(0);
        Check.tell(x, "price 5;");
        x.restore(0);
        Check.same("valley() of the tape that stayed", x.valley(), 1);
        Check.same("count(3)", x.count(3), 5);

        Check.rule("45: the kind of the FAULT stays");
        x = new ClogVotes();
        x.image(0);
        Check.sentence(x, "of x");
        x.restore(0);
        Check.same("fault()", x.fault(), 3);

        Check.rule("45: nothing can be undone");
        x = Edges.lively();
        x.restore(1);
        Check.same("undo()", x.undo(), Check.NONE);
        x = Edges.lively();
        x.image(0);
        x.restore(0);
        Check.same("undo() of what was kept a moment ago", x.undo(), Check.NONE);

        Check.rule("45: false: all can be undone as ahead of it");
        x = Edges.lively();
        x.restore(0);
        Check.same("undo()", x.undo(), 1);
    }
}
