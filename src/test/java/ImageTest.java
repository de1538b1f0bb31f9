/** Promises 44 and 45: images of all, and back to them. */
public final class ImageTest {
    private static final String LAND = "street s;hand a s 9 10;hand b s 5 20 child;question q;question r;"
            + "wants a q left;wants b q right;grants r s 7;echo left 3;price 4;wage 5;";

    public static void main(String[] args) {
        noSuch();
        restored();
        twoPlaces();
        emptyKept();
        Check.finish("ImageTest");
    }

    private static void noSuch() {
        ClogVotes x = Check.valley(LAND);
        Check.no("image(2)", x.image(2));
        Check.no("image(-1)", x.image(-1));
        Check.no("restore(0)", x.restore(0));
        Check.no("restore(1)", x.restore(1));
        x.strike(0);
        Check.yes("image(0)", x.image(0));
        Check.no("restore(1)", x.restore(1));
        Check.no("restore(2)", x.restore(2));
        Check.no("restore(-1)", x.restore(-1));
        Check.same("undo() behind what failed", x.undo(), 0);
    }

    private static void restored() {
        ClogVotes x = Check.valley(LAND);
        x.days(3);
        x.strike(1);
        x.put(0);
        x.weather(1);
        x.lay(1, 7);
        Check.sentence(x, "child or coin > 20");
        Check.yes("image(1)", x.image(1));
        Check.same("undo() stays behind an image", x.undo(), 4);
        Check.same("crier(1)", x.crier(1), 9);
        Check.tell(x, "question other;street u;");
        x.valley();
        Check.book(x, "day 3;", 1);
        Check.heard(x, 0, 0);
        Check.tell(x, "tape");
        x.weather(2);
        Check.yes("restore(1)", x.restore(1));
        int[] counts = {1, 2, 2, 4, 5, 4};
        for (int what = 0; what < 6; what++) {
            Check.same("count(" + what + ")", x.count(what), counts[what]);
        }
        int[] nows = {3, 1, 2, 14, 60, 1, 0, 1};
        for (int what = 0; what < 8; what++) {
            Check.same("now(" + what + ")", x.now(what), nows[what]);
        }
        Check.same("way(1, 0)", x.way(1, 0), 7);
        Check.same("way(0, 1)", x.way(0, 1), 3);
        Check.same("grants(1, 0)", x.grants(1, 0), 7);
        Check.same("wants(1, 0)", x.wants(1, 0), 1);
        Check.same("hand(1, 3)", x.hand(1, 3), 1);
        Check.same("said(NONE)", x.said(Check.NONE), 2);
        Check.same("undo()", x.undo(), Check.NONE);
        Check.same("told(2) stays", x.told(2), 3);
        Check.same("surely() stays", x.surely(), 0);
        Check.same("byteAt(0) stays", x.byteAt(0), 'r');
        Check.sameText("crier(0), names come back", Check.cry(x, 0), "q carried by 12");
        x.end(0);
        Check.same("names are told", Check.book(x, "b works;put r;", 0), 1);
        Check.same("told(0)", x.told(0), 43);
    }

    private static void twoPlaces() {
        ClogVotes x = Check.valley(LAND);
        x.image(0);
        x.buy(0, 1);
        x.image(1);
        x.buy(0, 1);
        Check.yes("restore(0)", x.restore(0));
        Check.same("hand(0, 1)", x.hand(0, 1), 9);
        x.strike(0);
        Check.yes("restore(1)", x.restore(1));
        Check.same("hand(0, 1)", x.hand(0, 1), 10);
        Check.same("now(2)", x.now(2), 0);
        x.strike(1);
        Check.yes("image(0) again", x.image(0));
        x.work(1);
        Check.yes("restore(0)", x.restore(0));
        Check.same("now(2)", x.now(2), 2);
        Check.yes("restore(0) once more", x.restore(0));
        Check.same("now(2)", x.now(2), 2);
    }

    private static void emptyKept() {
        ClogVotes x = new ClogVotes();
        Check.yes("image(0) of an empty valley", x.image(0));
        Check.tell(x, LAND);
        x.valley();
        Check.sentence(x, "child");
        Check.yes("restore(0)", x.restore(0));
        Check.same("count(1)", x.count(1), 0);
        Check.same("said(NONE)", x.said(Check.NONE), Check.NONE);
    }
}
