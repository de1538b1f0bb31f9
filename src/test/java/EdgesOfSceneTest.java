/** The edges of promises 6 to 11: what is so of the first and the last hand, question, street, way; of none such. */
public final class EdgesOfSceneTest {
    private static final String FULL = "street a;street b;street c;street d;street e;hand k a 0 0;hand l a 1 1;hand m b 2 2;"
            + "hand n c 3 3;hand o d 4 4;hand p d 5 5;hand q d 6 6;hand r d 7 7;hand s d 8 8;hand t e 20 99 child;"
            + "question f;question g;question h;question i;question j;wants t j right;wants k f left;wants t f left;"
            + "grants f a 1;grants j e 9;";
    private static final String RICH = "street s;hand a s 20 99;hand b s 20 99;hand c s 20 99;hand d s 20 99;hand e s 20 99;"
            + "hand f s 20 99;hand g s 20 99;hand h s 20 99;hand i s 20 99;hand j s 20 99;wage 9;";

    public static void main(String[] args) {
        hands();
        noise();
        noSuchHands();
        wants();
        questions();
        noSuchQuestions();
        grants();
        ways();
        now();
        nowFull();
        Check.finish("EdgesOfSceneTest");
    }

    private static void hand(ClogVotes x, int h, int... due) {
        for (int what = 0; what < due.length; what++) {
            Check.same("hand(" + h + ", " + what + ")", x.hand(h, what), due[what]);
        }
    }

    private static void hands() {
        Check.rule("6: of the first and of the tenth HAND");
        ClogVotes x = Check.valley(FULL);
        hand(x, 0, 0, 0, 0, 0, 0, 0, 0);
        hand(x, 9, 4, 20, 99, 1, 0, 40, 40);

        Check.rule("6: 4 on STRIKE, of the first and of the tenth HAND");
        x.strike(0);
        x.strike(9);
        hand(x, 0, 0, 0, 0, 0, 1, 0, 0);
        hand(x, 9, 4, 20, 99, 1, 1, 0, 0);
        hand(x, 8, 3, 8, 8, 0, 0, 8, 8);
    }

    private static void noise() {
        Check.rule("NOISE of a HAND: its IRONS, twice if it is a child");
        ClogVotes x = Check.valley("street s;hand a s 20 0;hand b s 20 0 child;hand c s 0 0 child;hand d s 1 0 child;hand e s 1 0;hand f s 7 0;");
        int[] plain = {20, 40, 0, 2, 1, 7};
        int[] wet = {10, 20, 0, 1, 0, 3};
        for (int h = 0; h < 6; h++) {
            Check.same("hand(" + h + ", 5)", x.hand(h, 5), plain[h]);
            Check.same("hand(" + h + ", 6)", x.hand(h, 6), plain[h]);
        }

        Check.rule("NOISE of a HAND: half of that (cut) if it is wet");
        x.weather(1);
        for (int h = 0; h < 6; h++) {
            Check.same("hand(" + h + ", 5)", x.hand(h, 5), wet[h]);
            Check.same("hand(" + h + ", 6)", x.hand(h, 6), wet[h]);
        }

        Check.rule("NOISE of a HAND: not half of that if there is snow");
        x.weather(2);
        for (int h = 0; h < 6; h++) {
            Check.same("hand(" + h + ", 5)", x.hand(h, 5), plain[h]);
        }

        Check.rule("NOISE of a HAND: less the SAND of that WAY (0 at least)");
        x.weather(0);
        x.lay(0, 7);
        x.lay(1, 8);
        hand(x, 5, 0, 7, 0, 0, 0, 0, 0);
        hand(x, 4, 0, 1, 0, 0, 0, 0, 0);
        hand(x, 0, 0, 20, 0, 0, 0, 13, 12);
        x.lay(0, 6);
        hand(x, 5, 0, 7, 0, 0, 0, 1, 0);

        Check.rule("NOISE of a HAND: half ahead of the SAND");
        x.weather(1);
        x.lay(0, 3);
        hand(x, 5, 0, 7, 0, 0, 0, 0, 0);
        hand(x, 0, 0, 20, 0, 0, 0, 7, 2);

        Check.rule("NOISE of a HAND: none if it is on STRIKE");
        x.weather(0);
        x.strike(1);
        hand(x, 1, 0, 20, 0, 1, 1, 0, 0);
    }

    private static void missing(String what, Edges.Made made, Edges.Ask call) {
        Edges.unchanged(what, made, x -> {
            int thrown = 0;
            try {
                call.of(x);
            } catch (java.util.NoSuchElementException e) {
                thrown = 1;
            }
            return thrown;
        }, 1);
    }

    private static void noSuchHands() {
        Check.rule("6: NoSuchElementException: no such HAND; a call that throws changes nothing");
        for (int h : Edges.beyond(3)) {
            missing("hand(" + h + ", 0)", Edges::lively, x -> x.hand(h, 0));
        }

        Check.rule("6: NoSuchElementException: nothing such of a HAND; a call that throws changes nothing");
        for (int what : Edges.beyond(7)) {
            missing("hand(0, " + what + ")", Edges::lively, x -> x.hand(0, what));
            missing("hand(2, " + what + ")", Edges::lively, x -> x.hand(2, what));
        }

        Check.rule("6: NoSuchElementException of a new object and of an eleventh HAND");
        missing("hand(0, 0) of nobody", ClogVotes::new, x -> x.hand(0, 0));
        ClogVotes full = Check.valley(FULL);
        Check.missing("hand(10, 0)", () -> full.hand(10, 0));
        Check.missing("hand(10, 7)", () -> full.hand(10, 7));

        Check.rule("6: a HAND that an earlier VALLEY had throws");
        ClogVotes x = Check.valley(FULL);
        Check.tell(x, "street a;hand b a 1 1;");
        x.valley();
        Check.same("hand(0, 1)", x.hand(0, 1), 1);
        Check.missing("hand(1, 1)", () -> x.hand(1, 1));
    }

    private static void wants() {
        Check.rule("7: by which WAY a HAND wants a QUESTION: the first and the last of both");
        ClogVotes x = Check.valley(FULL);
        Check.same("wants(0, 0)", x.wants(0, 0), 0);
        Check.same("wants(9, 0)", x.wants(9, 0), 0);
        Check.same("wants(9, 4)", x.wants(9, 4), 1);

        Check.rule("7: -2: by none");
        Check.same("wants(0, 4)", x.wants(0, 4), -2);
        Check.same("wants(8, 0)", x.wants(8, 0), -2);

        Check.rule("7: NONE: no such ones");
        for (int h : Edges.beyond(3)) {
            Edges.unchanged("wants(" + h + ", 0)", y -> y.wants(h, 0), Check.NONE);
            Edges.unchanged("wants(0, " + h + ")", y -> y.wants(0, h), Check.NONE);
            Edges.unchanged("wants(" + h + ", " + h + ")", y -> y.wants(h, h), Check.NONE);
        }
        Check.same("wants(10, 0)", x.wants(10, 0), Check.NONE);
        Check.same("wants(0, 5)", x.wants(0, 5), Check.NONE);
        Check.same("wants(0, 0) of nobody", new ClogVotes().wants(0, 0), Check.NONE);
    }

    private static void question(ClogVotes x, int q, int... due) {
        for (int what = 0; what < due.length; what++) {
            Check.same("question(" + q + ", " + what + ")", x.question(q, what), due[what]);
        }
    }

    private static void questions() {
        Check.rule("8: not PUT: 0, NONE, NONE");
        ClogVotes x = Check.valley(FULL);
        question(x, 0, 0, Check.NONE, Check.NONE, 1 | 512, 0);
        question(x, 4, 0, Check.NONE, Check.NONE, 0, 512);
        question(x, 2, 0, Check.NONE, Check.NONE, 0, 0);

        Check.rule("8: CARRIED on DAY 0, by how much");
        x.put(0);
        question(x, 0, 1, 0, 40, 1 | 512, 0);

        Check.rule("8: LOST, by how much the right was louder");
        x.days(60);
        x.put(4);
        question(x, 4, 2, 60, 40, 0, 512);

        Check.rule("8: LOST by 0, none was louder");
        x.days(1);
        x.put(2);
        question(x, 2, 2, 61, 0, 0, 0);

        Check.rule("8: 1 the DAY on which it was PUT, 400 too");
        for (int i = 0; i < 6; i++) {
            x.days(60);
        }
        Check.same("now(0)", x.now(0), 400);
        x.put(3);
        question(x, 3, 2, 400, 0, 0, 0);

        Check.rule("8: 2 how much louder one WAY was then, not now");
        x.strike(9);
        x.lay(0, 20);
        question(x, 0, 1, 0, 40, 1 | 512, 0);

        Check.rule("8: 1 more on the left is CARRIED, as much is LOST");
        String both = "street s;hand a s 6 0;hand b s 5 0;question q;wants a q left;wants b q right;";
        x = Check.valley(both);
        x.put(0);
        question(x, 0, 1, 0, 1, 1, 2);
        x = Check.valley(both.replace("6 0", "5 0"));
        x.put(0);
        question(x, 0, 2, 0, 0, 1, 2);
        x = Check.valley(both.replace("6 0", "4 0"));
        x.put(0);
        question(x, 0, 2, 0, 1, 1, 2);
    }

    private static void noSuchQuestions() {
        Check.rule("8: NoSuchElementException: no such QUESTION; a call that throws changes nothing");
        for (int q : Edges.beyond(3)) {
            missing("question(" + q + ", 0)", Edges::lively, x -> x.question(q, 0));
        }

        Check.rule("8: NoSuchElementException: nothing such of a QUESTION; a call that throws changes nothing");
        for (int what : Edges.beyond(5)) {
            missing("question(0, " + what + ")", Edges::lively, x -> x.question(0, what));
            missing("question(2, " + what + ")", Edges::lively, x -> x.question(2, what));
        }

        Check.rule("8: NoSuchElementException of a new object and of a sixth QUESTION");
        missing("question(0, 0) of none", ClogVotes::new, x -> x.question(0, 0));
        ClogVotes full = Check.valley(FULL);
        Check.missing("question(5, 0)", () -> full.question(5, 0));
        Check.missing("question(5, 5)", () -> full.question(5, 5));
    }

    private static void grants() {
        Check.rule("9: what a QUESTION grants to a STREET: the least and the greatest, the first and the last");
        ClogVotes x = Check.valley(FULL);
        Check.same("grants(0, 0)", x.grants(0, 0), 1);
        Check.same("grants(4, 4)", x.grants(4, 4), 9);

        Check.rule("9: 0: nothing");
        Check.same("grants(0, 4)", x.grants(0, 4), 0);
        Check.same("grants(4, 0)", x.grants(4, 0), 0);
        Check.same("grants(3, 4)", x.grants(3, 4), 0);

        Check.rule("9: NONE: no such QUESTION");
        for (int q : Edges.beyond(3)) {
            Edges.unchanged("grants(" + q + ", 0)", y -> y.grants(q, 0), Check.NONE);
        }
        Check.same("grants(5, 0)", x.grants(5, 0), Check.NONE);

        Check.rule("9: NONE: no such STREET");
        for (int s : Edges.beyond(2)) {
            Edges.unchanged("grants(0, " + s + ")", y -> y.grants(0, s), Check.NONE);
            Edges.unchanged("grants(2, " + s + ")", y -> y.grants(2, s), Check.NONE);
        }
        Check.same("grants(0, 5)", x.grants(0, 5), Check.NONE);
        Check.same("grants(0, 0) of none", new ClogVotes().grants(0, 0), Check.NONE);
        Check.same("grants(0, 0) without STREETS", Check.valley("question q;").grants(0, 0), Check.NONE);
        Check.same("grants(0, 0) without QUESTIONS", Check.valley("street s;").grants(0, 0), Check.NONE);
    }

    private static void ways() {
        Check.rule("10: 0 SAND, 1 its echo, of both WAYS");
        ClogVotes x = Check.valley("sand left 20;sand right 1;echo left 2;echo right 99;");
        Check.same("way(0, 0)", x.way(0, 0), 20);
        Check.same("way(1, 0)", x.way(1, 0), 1);
        Check.same("way(0, 1)", x.way(0, 1), 2);
        Check.same("way(1, 1)", x.way(1, 1), 99);

        Check.rule("10: NONE: no such WAY");
        for (int w : Edges.beyond(2)) {
            Edges.unchanged("way(" + w + ", 0)", y -> y.way(w, 0), Check.NONE);
            Edges.unchanged("way(" + w + ", 1)", y -> y.way(w, 1), Check.NONE);
        }

        Check.rule("10: NONE: nothing such of a WAY");
        for (int what : Edges.beyond(2)) {
            Edges.unchanged("way(0, " + what + ")", y -> y.way(0, what), Check.NONE);
            Edges.unchanged("way(1, " + what + ")", y -> y.way(1, what), Check.NONE);
        }
    }

    private static void now() {
        Check.rule("11: NONE for another what");
        for (int what : Edges.beyond(8)) {
            Edges.unchanged("now(" + what + ")", x -> x.now(what), Check.NONE);
        }

        Check.rule("11: 5 CARRIED, 6 LOST: not those that were not PUT");
        ClogVotes x = Check.valley(FULL);
        Check.same("now(5)", x.now(5), 0);
        Check.same("now(6)", x.now(6), 0);
        x.put(0);
        Check.same("now(5)", x.now(5), 1);
        Check.same("now(6)", x.now(6), 0);

        Check.rule("11: 7 whether one was PUT on this DAY");
        Check.same("now(7)", x.now(7), 1);
        x.days(1);
        Check.same("now(7) on the next DAY", x.now(7), 0);
        x.put(4);
        Check.same("now(7) of one that was LOST", x.now(7), 1);
        x.undo();
        Check.same("now(7) behind undo()", x.now(7), 0);
        Check.same("now(7) of a new object", new ClogVotes().now(7), 0);
    }

    private static void nowFull() {
        Check.rule("11: 2 who is on STRIKE, all ten");
        ClogVotes x = Check.valley(RICH);
        for (int h = 0; h < 10; h++) {
            x.strike(h);
        }
        Check.same("now(2)", x.now(2), 1023);

        Check.rule("11: 3 all IRONS, on STRIKE too");
        Check.same("now(3)", x.now(3), 200);

        Check.rule("11: 4 all COIN, 999 of each at most");
        Check.same("now(4)", x.now(4), 990);
        for (int h = 0; h < 10; h++) {
            x.work(h);
        }
        x.days(60);
        x.days(60);
        Check.same("now(4)", x.now(4), 9990);

        Check.rule("11: 5 all five CARRIED");
        String five = "street s;hand z s 1 0;question a;question b;question c;question d;question e;";
        x = Check.valley(five + "wants z a left;wants z b left;wants z c left;wants z d left;wants z e left;");
        putAll(x);
        Check.same("now(5)", x.now(5), 31);
        Check.same("now(6)", x.now(6), 0);

        Check.rule("11: 6 all five LOST");
        x = Check.valley(five);
        putAll(x);
        Check.same("now(5)", x.now(5), 0);
        Check.same("now(6)", x.now(6), 31);

        Check.rule("11: 0 the DAY, 400 at most; 1 WEATHER 2 at most");
        for (int i = 0; i < 7; i++) {
            x.days(60);
        }
        x.weather(2);
        Check.same("now(0)", x.now(0), 400);
        Check.same("now(1)", x.now(1), 2);
    }

    private static void putAll(ClogVotes x) {
        for (int q = 0; q < 5; q++) {
            Check.same("put(" + q + ")", x.put(q), 0);
            x.days(1);
        }
    }
}
