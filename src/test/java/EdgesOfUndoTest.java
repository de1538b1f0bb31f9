/** The edges of promise 20: what is kept to be undone, what is not, and how many of them. */
public final class EdgesOfUndoTest {
    public static void main(String[] args) {
        none();
        each();
        notDone();
        booksNotLived();
        most();
        howMany();
        gone();
        Check.finish("EdgesOfUndoTest");
    }

    private static ClogVotes land() {
        return Check.valley(Edges.LAND);
    }

    private static void none() {
        Check.rule("20: NONE: none is");
        Edges.unchanged("undo() of a new object", ClogVotes::new, ClogVotes::undo, Check.NONE);
        Edges.unchanged("undo() of a new VALLEY", EdgesOfUndoTest::land, ClogVotes::undo, Check.NONE);
        ClogVotes x = Edges.lively();
        Check.same("undo() of the second", x.undo(), 1);
        Check.same("undo() of the first", x.undo(), 0);
        Check.same("undo() of none", x.undo(), Check.NONE);
        Check.same("undo() of none again", x.undo(), Check.NONE);
    }

    /** The act is done, and is undone alone: another one ahead of it stays. */
    private static void undone(String what, Edges.Ask act, int due) {
        ClogVotes x = Edges.lively();
        String ahead = Edges.isSo(x);
        Check.same(what, act.of(x), due);
        Check.no(what + " changes something", Edges.isSo(x).equals(ahead));
        Check.same("undo() of " + what, x.undo(), 2);
        Check.sameText("what is so behind undo() of " + what, Edges.isSo(x), ahead);
        Edges.sameUndone("undo() of " + what, x, Edges.lively());
    }

    private static int lived(ClogVotes x, String text) {
        x.end(0);
        return Check.book(x, text, 1);
    }

    private static void each() {
        Check.rule("20: buy() that was done is undone");
        undone("buy(0, 1)", x -> x.buy(0, 1), 0);

        Check.rule("20: strike() that was done is undone");
        undone("strike(2)", x -> x.strike(2), 0);

        Check.rule("20: work() that was done is undone");
        undone("work(1)", x -> x.work(1), 0);

        Check.rule("20: sway() that was done is undone");
        undone("sway(0, 0, 1)", x -> x.sway(0, 0, 1), 0);
        undone("sway(2, 0, 0) of none", x -> x.sway(2, 0, 0), 0);

        Check.rule("20: put() that was done is undone, CARRIED or LOST");
        undone("put(0)", x -> x.put(0), 0);
        undone("put(1)", x -> x.put(1), 0);
        ClogVotes y = Edges.lively();
        y.put(1);
        Check.same("question(1, 0) of put(1)", y.question(1, 0), 1);
        y = Check.valley("question q;");
        y.put(0);
        y.undo();
        Check.same("question(0, 0) of one LOST", y.question(0, 0), 0);
        Check.same("question(0, 1) of one LOST", y.question(0, 1), Check.NONE);
        Check.same("question(0, 2) of one LOST", y.question(0, 2), Check.NONE);

        Check.rule("20: lay() that was done is undone");
        undone("lay(0, 4)", x -> x.lay(0, 4), 0);
        undone("lay(1, 20)", x -> x.lay(1, 20), 0);

        Check.rule("20: weather() that was done is undone");
        undone("weather(2)", x -> x.weather(2), 0);

        Check.rule("20: days() above 0 is undone as one");
        undone("days(1)", x -> x.days(1), 1);
        undone("days(60)", x -> x.days(60), 60);

        Check.rule("20: drawn() above 0 is undone as one");
        undone("drawn(1, 5)", x -> x.drawn(1, 5), 1);
        undone("drawn(60, 5)", x -> x.drawn(60, 5), 60);

        Check.rule("20: a BOOK of which a LINE was lived is undone as one");
        undone("book(1), all of it", x -> lived(x, "wet;a strikes;day 3;"), Check.NONE);
        undone("book(1), one LINE ahead of the one that is WRONG", x -> lived(x, "wet;wet;snow;"), 1);
    }

    private static void notDone() {
        Check.rule("20: what was not done, with a why or NONE, is not kept");
        Edges.unchanged("buy(0, 20)", x -> x.buy(0, 20), 1);
        Edges.unchanged("buy(2, 2)", x -> x.buy(2, 2), 2);
        Edges.unchanged("buy(0, 0)", x -> x.buy(0, 0), Check.NONE);
        Edges.unchanged("strike(1)", x -> x.strike(1), 1);
        Edges.unchanged("work(0)", x -> x.work(0), 1);
        Edges.unchanged("sway(0, 0, 0)", x -> x.sway(0, 0, 0), 2);
        Edges.unchanged("put(9)", x -> x.put(9), Check.NONE);
        Edges.unchanged("lay(0, 3)", x -> x.lay(0, 3), 1);
        Edges.unchanged("weather(0)", x -> x.weather(0), 1);
        Edges.unchanged("days(0)", x -> x.days(0), Check.NONE);
        Edges.unchanged("drawn(0, 1)", x -> x.drawn(0, 1), Check.NONE);

        Check.rule("20: days() of 0 is not kept");
        Edges.unchanged("days(5) on DAY 400", EdgesOfUndoTest::late, x -> x.days(5), 0);

        Check.rule("20: drawn() of 0 is not kept");
        Edges.unchanged("drawn(5, 1) on DAY 400", EdgesOfUndoTest::late, x -> x.drawn(5, 1), 0);

        Check.rule("20: what asks what would be is not kept");
        Edges.unchanged("odds(0, 0, 7)", EdgesOfUndoTest::late, x -> x.odds(0, 0, 7), Check.NONE);
        ClogVotes x = Edges.lively();
        x.odds(0, 30, 7);
        x.agenda();
        x.sanded(0);
        x.image(0);
        Check.same("undo()", x.undo(), 1);
    }

    private static ClogVotes late() {
        ClogVotes x = Edges.lively();
        for (int i = 0; i < 7; i++) {
            x.days(60);
        }
        x.strike(2);
        return x;
    }

    private static void booksNotLived() {
        Check.rule("20: a BOOK of which no LINE was lived is not kept: WRONG at once");
        ClogVotes x = Edges.lively();
        Check.same("book(1)", lived(x, "a works;wet;"), 0);
        Edges.sameUndone("book(1)", x, Edges.lively());

        Check.rule("20: a BOOK of which no LINE was lived is not kept: without LINES");
        x = Edges.lively();
        Check.same("book(1)", lived(x, ""), Check.NONE);
        Edges.sameUndone("book(1)", x, Edges.lively());

        Check.rule("20: a BOOK of which no LINE was lived is not kept: judged");
        x = Edges.lively();
        x.end(0);
        Check.same("book(0)", Check.book(x, "wet;a strikes;", 0), Check.NONE);
        Edges.sameUndone("book(0)", x, Edges.lively());

        Check.rule("20: a BOOK of which no LINE was lived is not kept: with a FAULT");
        x = Edges.lively();
        Check.same("book(1)", lived(x, "wet;a strikes;x"), -16);
        Edges.sameUndone("book(1)", x, Edges.lively());
    }

    private static void most() {
        Check.rule("20: 8 at most are kept");
        for (int acts = 7; acts <= 10; acts++) {
            ClogVotes x = new ClogVotes();
            for (int sand = 1; sand <= acts; sand++) {
                x.lay(0, sand);
            }
            int kept = Math.min(8, acts);
            for (int k = kept - 1; k >= 0; k--) {
                Check.same("undo() of " + acts + " acts", x.undo(), k);
                Check.same("way(0, 0)", x.way(0, 0), acts - kept + k);
            }
            Check.same("undo() of one that is not kept", x.undo(), Check.NONE);
            Check.same("way(0, 0)", x.way(0, 0), acts - kept);
        }

        Check.rule("20: the latest 8, of many, acts between them not done");
        ClogVotes x = land();
        for (int i = 0; i < 30; i++) {
            x.strike(0);
            x.strike(0);
            x.work(0);
            x.work(1);
        }
        for (int k = 7; k >= 0; k--) {
            Check.same("undo()", x.undo(), k);
            Check.same("now(2)", x.now(2), k % 2);
        }
        Check.same("undo()", x.undo(), Check.NONE);

        Check.rule("20: there is room again for what was undone");
        x = new ClogVotes();
        for (int sand = 1; sand <= 9; sand++) {
            x.lay(0, sand);
        }
        x.undo();
        x.undo();
        x.lay(0, 15);
        x.lay(0, 16);
        x.lay(0, 17);
        int[] due = {16, 15, 7, 6, 5, 4, 3, 2};
        for (int k = 0; k < 8; k++) {
            Check.same("undo()", x.undo(), 7 - k);
            Check.same("way(0, 0)", x.way(0, 0), due[k]);
        }
        Check.same("undo()", x.undo(), Check.NONE);
    }

    private static void howMany() {
        Check.rule("20: how many more can be: 0 behind the last");
        ClogVotes x = new ClogVotes();
        x.lay(0, 1);
        Check.same("undo() of one", x.undo(), 0);
        x.lay(0, 1);
        x.lay(0, 2);
        Check.same("undo() of two", x.undo(), 1);
        x.lay(0, 3);
        Check.same("undo() of two again", x.undo(), 1);
        Check.same("way(0, 0)", x.way(0, 0), 1);
        Check.same("undo() of the first", x.undo(), 0);

        Check.rule("20: undo() itself is not undone");
        Check.same("undo()", x.undo(), Check.NONE);
        Check.same("way(0, 0)", x.way(0, 0), 0);
    }

    private static void gone() {
        Check.rule("20: behind a new VALLEY nothing can be undone");
        ClogVotes x = Edges.lively();
        x.end(0);
        x.valley();
        Check.same("undo()", x.undo(), Check.NONE);

        Check.rule("20: behind a VALLEY with a FAULT all can be undone");
        x = Edges.lively();
        x.end(0);
        Check.tell(x, "x");
        x.valley();
        Edges.sameUndone("valley()", x, Edges.lively());

        Check.rule("20: behind restore() nothing can be undone");
        x = Edges.lively();
        Check.yes("restore(1)", x.restore(1));
        Check.same("undo()", x.undo(), Check.NONE);
        x.lay(0, 9);
        Check.same("undo() of what came behind it", x.undo(), 0);

        Check.rule("20: behind restore() of nothing and image() all can be undone");
        x = Edges.lively();
        x.restore(0);
        x.restore(2);
        x.image(0);
        x.image(2);
        Edges.sameUndone("restore(0)", x, Edges.lively());

        Check.rule("20: what other calls told last is not undone");
        x = Edges.lively();
        x.end(0);
        x.days(5);
        x.win(1);
        x.crier(1);
        Check.book(x, "wet;", 1);
        String ahead = Edges.wasTold(x);
        x.undo();
        x.undo();
        Check.sameText("what was told", Edges.wasTold(x), ahead);

        Check.rule("20: the SENTENCE is not undone, nor an image");
        x = Edges.lively();
        x.end(0);
        x.lay(0, 8);
        Check.sentence(x, "number < 3");
        x.image(0);
        x.undo();
        Check.same("said(NONE)", x.said(Check.NONE), 3);
        x.restore(0);
        Check.same("way(0, 0)", x.way(0, 0), 8);
    }
}
