/** What the tests of edges use: an object in which all is told, and calls that must change nothing. */
final class Edges {
    interface Made {
        ClogVotes make();
    }

    interface Ask {
        int of(ClogVotes x);
    }

    /** Three hands, three questions, two streets. */
    static final String LAND = "street s;street t;hand a s 9 10;hand b t 5 20 child;hand c t 19 99;"
            + "question q;question r;question p;wants a q left;wants b q right;wants a r left;wants c p left;"
            + "grants q t 4;grants q s 1;grants r t 9;price 3;wage 2;";

    private Edges() {
    }

    /** A valley in which each call that tells something for later has told it; two acts can be undone. */
    static ClogVotes lively() {
        ClogVotes x = Check.valley(LAND);
        Check.sentence(x, "child or silent");
        x.image(1);
        x.win(0);
        x.winStreets(0);
        x.bought(0);
        x.agenda();
        Check.heard(x, 9, 1);
        x.crier(2);
        Check.book(x, "day 2;a works;", 0);
        x.strike(1);
        x.lay(0, 3);
        Check.tell(x, "abc");
        return x;
    }

    /** Numbers that are no index below n. */
    static int[] beyond(int n) {
        return new int[] {Integer.MIN_VALUE, -2, -1, n, n + 1, Integer.MAX_VALUE};
    }

    /** The call gives this answer, and all is behind it as it was ahead of it, what can be undone too. */
    static void unchanged(String what, Made made, Ask call, int due) {
        ClogVotes x = made.make();
        String ahead = isSo(x) + wasTold(x);
        Check.same(what, call.of(x), due);
        Check.sameText("all behind " + what, isSo(x) + wasTold(x), ahead);
        sameUndone(what, x, made.make());
    }

    static void unchanged(String what, Ask call, int due) {
        unchanged(what, Edges::lively, call, due);
    }

    static void sameUndone(String what, ClogVotes x, ClogVotes due) {
        Check.same("undo() behind " + what, x.undo(), due.undo());
        Check.sameText("all behind " + what + " and undo()", isSo(x), isSo(due));
    }

    /** What is so: the valley, the day, hands, questions, ways, and of how many the sentence is said. */
    static String isSo(ClogVotes x) {
        StringBuilder all = new StringBuilder();
        for (int what = 0; what < 5; what++) {
            all.append(x.count(what)).append(' ');
        }
        for (int what = 0; what < 8; what++) {
            all.append(x.now(what)).append(' ');
        }
        for (int h = 0; h < x.count(1); h++) {
            for (int what = 0; what < 7; what++) {
                all.append(x.hand(h, what)).append(' ');
            }
        }
        for (int q = 0; q < x.count(2); q++) {
            for (int what = 0; what < 5; what++) {
                all.append(x.question(q, what)).append(' ');
            }
            for (int s = 0; s < x.count(0); s++) {
                all.append(x.grants(q, s)).append(' ');
            }
        }
        for (int w = 0; w < 2; w++) {
            all.append(x.way(w, 0)).append(' ').append(x.way(w, 1)).append(' ');
        }
        return all.append(x.said(Check.NONE)).append('\n').toString();
    }

    /** What calls told last, and how many bytes the tape has. */
    static String wasTold(ClogVotes x) {
        StringBuilder all = new StringBuilder();
        all.append(x.count(5)).append(' ').append(x.fault()).append(' ').append(x.won()).append(' ');
        all.append(x.wonStreets()).append(' ').append(x.surely()).append(' ').append(x.ask()).append(' ');
        for (int what = 0; what < 4; what++) {
            all.append(x.told(what)).append(' ');
        }
        for (int h = 0; h <= 10 && x.buys(h) != Check.NONE; h++) {
            all.append("buys ").append(x.buys(h)).append(' ');
        }
        for (int k = 0; k <= 5 && x.agendaAt(k) != Check.NONE; k++) {
            all.append("agenda ").append(x.agendaAt(k)).append(' ');
        }
        for (int i = 0; i <= 40 && x.byteAt(i) != Check.NONE; i++) {
            all.append((char) x.byteAt(i));
        }
        return all.toString();
    }
}
