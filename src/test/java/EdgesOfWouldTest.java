/** The edges of promises 21 to 27: noise of a way, what would be carried, what must be won, the least sand. */
public final class EdgesOfWouldTest {
    private static final String TEN = "street z;hand a z 1 0;hand b z 1 0;hand c z 1 0;hand d z 1 0;hand e z 1 0;"
            + "hand f z 1 0;hand g z 1 0;hand h z 1 0;hand i z 1 0;hand j z 1 0;question q;";

    public static void main(String[] args) {
        noise();
        noiseOfMany();
        would();
        win();
        winLikeOnes();
        won();
        winStreets();
        wonStreets();
        sanded();
        sandedJust();
        Check.finish("EdgesOfWouldTest");
    }

    /** The first ones of ten hands want the question by a way. */
    private static String wants(int from, int to, String way) {
        StringBuilder lines = new StringBuilder();
        for (int h = from; h < to; h++) {
            lines.append("wants ").append((char) ('a' + h)).append(" q ").append(way).append(';');
        }
        return lines.toString();
    }

    private static void noise() {
        Check.rule("21: NONE: no such QUESTION");
        for (int q : Edges.beyond(3)) {
            Edges.unchanged("noise(" + q + ", 0)", x -> x.noise(q, 0), Check.NONE);
        }
        Check.same("noise(0, 0) of none", new ClogVotes().noise(0, 0), Check.NONE);

        Check.rule("21: NONE: no such WAY");
        for (int w : Edges.beyond(2)) {
            Edges.unchanged("noise(0, " + w + ")", x -> x.noise(0, w), Check.NONE);
        }

        Check.rule("NOISE: each HAND goes by the WAY by which it wants it; who wants it by none is not heard");
        ClogVotes x = Check.valley("street s;hand a s 5 0;hand b s 6 0;hand c s 7 0;question q;question r;wants a q left;wants c q right;");
        Check.same("noise(0, 0)", x.noise(0, 0), 5);
        Check.same("noise(0, 1)", x.noise(0, 1), 7);
        Check.same("noise(1, 0) of nobody", x.noise(1, 0), 0);
        Check.same("noise(1, 1) of nobody", x.noise(1, 1), 0);

        Check.rule("NOISE of a WAY: if that is above 0, its echo more");
        String text = "street s;hand a s 1 0;hand b s 0 0;question q;wants % q left;echo left 99;echo right 99;";
        x = Check.valley(text.replace("%", "a"));
        Check.same("noise(0, 0) of 1", x.noise(0, 0), 100);
        Check.same("noise(0, 1) of nobody", x.noise(0, 1), 0);
        x.lay(0, 1);
        Check.same("noise(0, 0) under SAND", x.noise(0, 0), 0);
        x.undo();
        x.weather(1);
        Check.same("noise(0, 0) of half of 1", x.noise(0, 0), 0);
        x.undo();
        x.strike(0);
        Check.same("noise(0, 0) on STRIKE", x.noise(0, 0), 0);
        x = Check.valley(text.replace("%", "b"));
        Check.same("noise(0, 0) of no IRONS", x.noise(0, 0), 0);
    }

    private static void noiseOfMany() {
        Check.rule("NOISE of a WAY: each HAND less the SAND, 0 at least, then all of them");
        ClogVotes x = Check.valley("street s;hand a s 5 0;hand b s 8 0;question q;wants a q left;wants b q left;sand left 6;sand right 20;");
        Check.same("noise(0, 0)", x.noise(0, 0), 2);

        Check.rule("NOISE of a WAY: half (cut) of each HAND, not of all");
        x = Check.valley("street s;hand a s 3 0;hand b s 3 0;question q;wants a q right;wants b q right;");
        x.weather(1);
        Check.same("noise(0, 1)", x.noise(0, 1), 2);

        Check.rule("NOISE of a WAY: as many and as loud as may be");
        x = Check.valley(TEN.replace(" 1 0;", " 20 0 child;") + wants(0, 10, "left") + "echo left 99;");
        Check.same("noise(0, 0)", x.noise(0, 0), 499);

        Check.rule("21: NOISE now, of one that was PUT too");
        x = Edges.lively();
        x.put(0);
        Check.same("noise(0, 1)", x.noise(0, 1), 0);
        x.work(1);
        Check.same("noise(0, 1) behind work(1)", x.noise(0, 1), 18);
    }

    private static void would() {
        String both = "street s;hand a s % 0;hand b s 5 0 child;question q;wants a q left;wants b q right;";
        Check.rule("CARRIED, if the left is louder than the right: 11 against 10, not 10 or 9");
        Check.same("would(0) of 11", Check.valley(both.replace("%", "11")).would(0), 1);
        Check.same("would(0) of 10", Check.valley(both.replace("%", "10")).would(0), 0);
        Check.same("would(0) of 9", Check.valley(both.replace("%", "9")).would(0), 0);

        Check.rule("CARRIED: none on both is not");
        Check.same("would(0) of nobody", Check.valley("question q;echo left 9;").would(0), 0);

        Check.rule("22: PUT or not");
        ClogVotes x = Check.valley(both.replace("%", "11"));
        x.put(0);
        Check.same("would(0) of one CARRIED", x.would(0), 1);
        x.strike(0);
        Check.same("would(0) of one CARRIED, by what is so now", x.would(0), 0);
        x = Check.valley(both.replace("%", "9"));
        x.put(0);
        Check.same("would(0) of one LOST", x.would(0), 0);
        x.strike(1);
        Check.same("would(0) of one LOST, by what is so now", x.would(0), 1);

        Check.rule("22: snow is as dry");
        x = Check.valley(both.replace("%", "11"));
        x.weather(2);
        Check.same("would(0) of 11 in snow", x.would(0), 1);
        x.weather(1);
        Check.same("would(0) of 5 against 5 in the wet", x.would(0), 0);

        Check.rule("22: NONE: no such one");
        for (int q : Edges.beyond(3)) {
            Edges.unchanged("would(" + q + ")", y -> y.would(q), Check.NONE);
        }
        Check.same("would(0) of none", new ClogVotes().would(0), Check.NONE);
    }

    private static void win() {
        Check.rule("23: 0: it would be CARRIED");
        ClogVotes x = Check.valley("street s;hand a s 1 0;hand b s 9 0;question q;question r;wants a q left;wants b r right;");
        Check.same("win(0)", x.win(0), 0);
        Check.same("won()", x.won(), 0);

        Check.rule("23: NONE: by none");
        x = Check.valley(TEN + wants(0, 10, "right") + "sand left 1;");
        Check.same("win(0) under SAND", x.win(0), Check.NONE);
        Check.same("win(0) of nobody", Check.valley("question q;").win(0), Check.NONE);
        x = Check.valley("street s;hand a s 20 0;question q;wants a q right;");
        x.strike(0);
        Check.same("win(0) with all on STRIKE", x.win(0), Check.NONE);

        Check.rule("23: NONE: no such one");
        for (int q : Edges.beyond(3)) {
            Edges.unchanged("win(" + q + ")", y -> y.win(q), Check.NONE);
        }
        Check.same("win(0) of none", new ClogVotes().win(0), Check.NONE);

        Check.rule("WON: the fewest HANDS, one and all ten");
        x = Check.valley(TEN + wants(0, 10, "right") + "echo right 99;");
        Check.same("win(0)", x.win(0), 10);
        Check.same("won()", x.won(), 1023);
        x = Check.valley(TEN + wants(0, 9, "right") + "echo left 99;");
        Check.same("win(0)", x.win(0), 1);
        Check.same("won()", x.won(), 1);

        Check.rule("WON: just so many that the left is louder, not as loud");
        x = Check.valley(TEN + wants(0, 10, "right"));
        Check.same("win(0) of 6 against 4", x.win(0), 6);
        Check.same("won()", x.won(), 63);

        Check.rule("WON: of those that do not want a QUESTION by the left: by the right and by none");
        x = Check.valley("street s;hand a s 3 0;hand b s 1 0;hand c s 4 0;hand d s 9 0;question q;wants a q left;wants c q right;");
        Check.same("win(0), b by none", x.win(0), 1);
        Check.same("won(): c of the right, 7 against 0; b: 4 against 4", x.won(), 4);
        x.strike(2);
        x.lay(0, 3);
        Check.same("win(0), only d is heard", x.win(0), 1);
        Check.same("won()", x.won(), 8);
    }

    private static void winLikeOnes() {
        Check.rule("WON: of like ones the least as bits");
        ClogVotes x = Check.valley(TEN + wants(0, 3, "right"));
        Check.same("win(0) of 3 on the right, 7 by none", x.win(0), 2);
        Check.same("won(): a and b, 2 against 1", x.won(), 3);
        x = Check.valley("street s;hand a s 6 0;hand b s 8 0;hand c s 8 0;hand d s 10 0;hand e s 5 0;question q;"
                + "wants e q right;sand left 5;");
        Check.same("win(0): a and d, b and c, or e and another one", x.win(0), 2);
        Check.same("won(): b and c", x.won(), 6);

        Check.rule("WON: fewer HANDS are ahead of less bits");
        x = Check.valley("street s;hand a s 1 0;hand b s 1 0;hand c s 1 0;hand d s 9 0;hand e s 2 0;question q;wants e q right;sand left 2;");
        Check.same("win(0): d, or two others with e", x.win(0), 1);
        Check.same("won(): d", x.won(), 8);
    }

    private static void won() {
        Check.rule("24: NONE ahead of any");
        ClogVotes x = Check.valley("street s;hand a s 0 0;hand b s 1 0;question q;question r;wants a q right;");
        Check.same("won()", x.won(), Check.NONE);

        Check.rule("24: NONE ahead of any that was not NONE");
        x.lay(0, 20);
        Check.same("win(0)", x.win(0), Check.NONE);
        Check.same("win(2)", x.win(2), Check.NONE);
        Check.same("won()", x.won(), Check.NONE);

        Check.rule("24: by the latest win() that was not NONE");
        x.lay(0, 0);
        Check.same("win(0)", x.win(0), 1);
        Check.same("won()", x.won(), 2);
        x.lay(0, 20);
        Check.same("win(0)", x.win(0), Check.NONE);
        Check.same("won()", x.won(), 2);
        Check.same("win(-1)", x.win(-1), Check.NONE);
        Check.same("won()", x.won(), 2);
        x.winStreets(0);
        x.lay(0, 0);
        x.sway(1, 1, 0);
        Check.same("win(1)", x.win(1), 0);
        Check.same("won()", x.won(), 0);
    }

    private static void winStreets() {
        String five = "street a;street b;street c;street d;street e;hand m a 6 0;hand n b 8 0;hand o c 8 0;hand p d 10 0;hand r e 5 0;question q;";
        Check.rule("25: 0: it would be CARRIED");
        ClogVotes x = Check.valley(five + "wants m q left;");
        Check.same("winStreets(0)", x.winStreets(0), 0);
        Check.same("wonStreets()", x.wonStreets(), 0);

        Check.rule("25: NONE: by none");
        Check.same("winStreets(0) under SAND", Check.valley(five + "wants m q left;sand left 10;").winStreets(0), Check.NONE);
        Check.same("winStreets(0) without STREETS", Check.valley("question q;").winStreets(0), Check.NONE);
        Check.same("winStreets(0) of empty STREETS", Check.valley("street a;street b;question q;").winStreets(0), Check.NONE);

        Check.rule("25: NONE: no such one");
        for (int q : Edges.beyond(3)) {
            Edges.unchanged("winStreets(" + q + ")", y -> y.winStreets(q), Check.NONE);
        }
        Check.same("winStreets(0) of none", new ClogVotes().winStreets(0), Check.NONE);

        Check.rule("STREETS won: one and all five");
        String right = "wants m q right;wants n q right;wants o q right;wants p q right;wants r q right;";
        x = Check.valley(five + right + "echo right 99;");
        Check.same("winStreets(0)", x.winStreets(0), 5);
        Check.same("wonStreets()", x.wonStreets(), 31);
        x = Check.valley(five + "wants r q right;");
        Check.same("winStreets(0)", x.winStreets(0), 1);
        Check.same("wonStreets()", x.wonStreets(), 1);

        Check.rule("STREETS won: of like ones the least as bits");
        x = Check.valley(five + "wants r q right;sand left 5;");
        Check.same("winStreets(0): a and d, b and c, or e and another one", x.winStreets(0), 2);
        Check.same("wonStreets(): b and c", x.wonStreets(), 6);

        Check.rule("STREETS won: all HANDS of a STREET at once (those that want it so already, too)");
        x = Check.valley("street a;street b;street c;hand m b 3 0;hand n b 4 0;hand o c 7 0;hand p b 6 0;question q;wants m q left;wants n q right;"
                + "wants o q right;");
        Check.same("winStreets(0): b, 13 against 7; c, 10 against 4", x.winStreets(0), 1);
        Check.same("wonStreets(): b", x.wonStreets(), 2);
        x.strike(3);
        Check.same("winStreets(0): b, 7 against 7; c, 10 against 4", x.winStreets(0), 1);
        Check.same("wonStreets(): c", x.wonStreets(), 4);
        Check.same("wants(1, 0) stays", x.wants(1, 0), 1);
    }

    private static void wonStreets() {
        Check.rule("26: NONE ahead of any");
        ClogVotes x = Check.valley("street s;street t;hand a s 0 0;hand b t 1 0;question q;question r;wants a q right;");
        Check.same("wonStreets()", x.wonStreets(), Check.NONE);
        x.win(0);
        Check.same("wonStreets() behind win()", x.wonStreets(), Check.NONE);

        Check.rule("26: NONE ahead of any that was not NONE");
        x.lay(0, 20);
        Check.same("winStreets(0)", x.winStreets(0), Check.NONE);
        Check.same("winStreets(2)", x.winStreets(2), Check.NONE);
        Check.same("wonStreets()", x.wonStreets(), Check.NONE);

        Check.rule("26: by the latest winStreets() that was not NONE");
        x.lay(0, 0);
        Check.same("winStreets(0)", x.winStreets(0), 1);
        Check.same("wonStreets()", x.wonStreets(), 2);
        x.lay(0, 20);
        Check.same("winStreets(0)", x.winStreets(0), Check.NONE);
        Check.same("wonStreets()", x.wonStreets(), 2);
        Check.same("winStreets(-1)", x.winStreets(-1), Check.NONE);
        Check.same("wonStreets()", x.wonStreets(), 2);
        x.lay(0, 0);
        x.sway(1, 1, 0);
        x.win(0);
        Check.same("winStreets(1)", x.winStreets(1), 0);
        Check.same("wonStreets()", x.wonStreets(), 0);
    }

    private static ClogVotes against(int left, int right, String more) {
        return Check.valley("street s;hand a s " + left + " 0;hand b s " + right + " 0;question q;wants a q left;wants b q right;" + more);
    }

    private static void sanded() {
        Check.rule("27: NONE: no such one");
        for (int q : Edges.beyond(3)) {
            Edges.unchanged("sanded(" + q + ")", x -> x.sanded(q), Check.NONE);
        }
        Check.same("sanded(0) of none", new ClogVotes().sanded(0), Check.NONE);

        Check.rule("27: NONE: by none: the left is none");
        Check.same("sanded(0) of 0 against 0", against(0, 0, "").sanded(0), Check.NONE);
        Check.same("sanded(0) of 0 against 20", against(0, 20, "").sanded(0), Check.NONE);
        Check.same("sanded(0) of nobody", Check.valley("question q;").sanded(0), Check.NONE);

        Check.rule("27: NONE: by none: 20 is too little");
        String child = "street s;hand a s % 0;hand b s 20 0 child;question q;wants a q left;wants b q right;";
        Check.same("sanded(0) of 20 against 40", Check.valley(child.replace("%", "20")).sanded(0), Check.NONE);
        Check.same("sanded(0) of 21 and its echo against 40", Check.valley(child.replace("%", "20") + "echo left 1;").sanded(0), 20);

        Check.rule("SANDED changes nothing");
        Edges.unchanged("sanded(0) of what would be CARRIED", x -> x.sanded(0), 0);
        Edges.unchanged("sanded(0) by none", () -> against(0, 20, "sand right 7;"), x -> x.sanded(0), Check.NONE);
        Edges.unchanged("sanded(0) of 20", () -> against(1, 20, "sand right 7;"), x -> x.sanded(0), 20);
    }

    private static void sandedJust() {
        Check.rule("SANDED: the least SAND (0 to 20): 0");
        Check.same("sanded(0) of 6 against 5", against(6, 5, "").sanded(0), 0);
        Check.same("sanded(0) of 1 against nobody", against(1, 0, "echo right 99;").sanded(0), 0);

        Check.rule("SANDED: the least SAND (0 to 20): 1");
        Check.same("sanded(0) of 5 against 5", against(5, 5, "").sanded(0), 1);

        Check.rule("SANDED: the least SAND (0 to 20): 19 and 20");
        Check.same("sanded(0) of 2 against 20", against(2, 20, "").sanded(0), 19);
        Check.same("sanded(0) of 1 against 20", against(1, 20, "").sanded(0), 20);

        Check.rule("SANDED: in place of the SAND that lies there now");
        Check.same("sanded(0) of 6 against 5 under 20", against(6, 5, "sand right 20;").sanded(0), 0);
        Check.same("sanded(0) of 5 against 5 under 1", against(5, 5, "sand right 1;").sanded(0), 1);
        Check.same("sanded(0) of 5 against 9 under 3", against(5, 9, "sand right 3;").sanded(0), 5);

        Check.rule("SANDED: the echo goes when nothing is heard");
        Check.same("sanded(0) of 5 against 4 and 9", against(5, 4, "echo right 9;").sanded(0), 4);

        Check.rule("SANDED: by what is so now: wet, on STRIKE, SAND on the left");
        ClogVotes x = against(6, 10, "");
        x.weather(1);
        Check.same("sanded(0) of 3 against 5", x.sanded(0), 3);
        x.lay(0, 3);
        Check.same("sanded(0) of 0 against 5", x.sanded(0), Check.NONE);
        x.lay(0, 2);
        Check.same("sanded(0) of 1 against 5", x.sanded(0), 5);
        x.strike(1);
        Check.same("sanded(0) of 1 against nobody", x.sanded(0), 0);

        Check.rule("SANDED: of one that was PUT too");
        x = against(5, 5, "");
        x.put(0);
        Check.same("sanded(0)", x.sanded(0), 1);
    }
}
