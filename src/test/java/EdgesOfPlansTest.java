/** The edges of promises 28 to 32: the least coin for irons, the agenda, power. */
public final class EdgesOfPlansTest {
    private static final String TEN = "street z;hand a z 1 0;hand b z 1 0;hand c z 1 0;hand d z 1 0;hand e z 1 0;"
            + "hand f z 1 0;hand g z 1 0;hand h z 1 0;hand i z 1 0;hand j z 1 0;question q;";

    public static void main(String[] args) {
        boughtNone();
        boughtJust();
        boughtWho();
        boughtFirst();
        buys();
        agendaNone();
        agenda();
        agendaFirst();
        agendaAt();
        power();
        Check.finish("EdgesOfPlansTest");
    }

    /** Hand a wants the question by the left, hand b, who has no coin, by the right. */
    private static ClogVotes against(int irons, int coin, int right, String more) {
        return Check.valley("street s;hand a s " + irons + " " + coin + ";hand b s " + right + " 99;question q;"
                + "wants a q left;wants b q right;" + more);
    }

    private static void bought(String what, ClogVotes x, int coin, int... irons) {
        Check.same("bought(0): " + what, x.bought(0), coin);
        for (int h = 0; h < irons.length; h++) {
            Check.same("buys(" + h + "): " + what, x.buys(h), irons[h]);
        }
    }

    private static void boughtNone() {
        Check.rule("28: 0: it would be CARRIED");
        bought("6 against 5", against(6, 99, 5, ""), 0, 0, 0);

        Check.rule("28: NONE: it can't be: nobody wants it by the left");
        Check.same("bought(0)", Check.valley("street s;hand a s 9 99;question q;wants a q right;").bought(0), Check.NONE);
        Check.same("bought(0) of nobody", Check.valley("question q;").bought(0), Check.NONE);
        Check.same("bought(0) by none", Check.valley("street s;hand a s 0 99;question q;").bought(0), Check.NONE);

        Check.rule("28: NONE: it can't be: COIN is 1 too little");
        Check.same("bought(0)", against(5, 8, 6, "price 3;").bought(0), 6);
        Check.same("bought(0)", against(5, 6, 6, "price 3;").bought(0), 6);
        Check.same("bought(0)", against(5, 5, 6, "price 3;").bought(0), Check.NONE);
        Check.same("bought(0)", against(5, 0, 5, "price 1;").bought(0), Check.NONE);

        Check.rule("28: NONE: it can't be: more than 20 IRONS");
        Check.same("bought(0): 20 against 19", against(18, 99, 19, "").bought(0), 4);
        Check.same("bought(0): 20 against 20", against(18, 99, 20, "").bought(0), Check.NONE);
        Check.same("bought(0): 20 against 20", against(20, 99, 20, "").bought(0), Check.NONE);

        Check.rule("28: NONE: no such one");
        for (int q : Edges.beyond(3)) {
            Edges.unchanged("bought(" + q + ")", x -> x.bought(q), Check.NONE);
        }
        Check.same("bought(0) of none", new ClogVotes().bought(0), Check.NONE);

        Check.rule("28: of what can't be, nothing is told, nothing changes");
        Edges.unchanged("bought(2)", EdgesOfPlansTest::sandy, x -> x.bought(2), Check.NONE);
    }

    private static ClogVotes sandy() {
        ClogVotes x = Edges.lively();
        x.lay(0, 20);
        return x;
    }

    private static void boughtJust() {
        Check.rule("BOUGHT: just so many that the left is louder, not as loud");
        bought("5 against 5", against(5, 99, 5, "price 1;"), 1, 1, 0);
        bought("0 against 19", against(0, 99, 19, "price 1;"), 20, 20, 0);
        bought("0 against 0", against(0, 99, 0, "price 9;"), 9, 1, 0);

        Check.rule("BOUGHT: the first IRONS that are heard bring the echo");
        bought("0 against 50", against(0, 99, 20, "echo left 99;echo right 30;"), 2, 1, 0);
        bought("0 against 50", against(0, 99, 20, "echo left 49;echo right 30;"), 4, 2, 0);
        bought("0 against 50 under SAND", against(0, 99, 20, "echo left 99;echo right 30;sand left 4;"), 10, 5, 0);
        bought("0 against nobody", against(0, 99, 0, "echo left 99;echo right 99;"), 2, 1, 0);

        Check.rule("BOUGHT: wet: half (cut) of what it has then");
        ClogVotes x = against(3, 99, 2, "price 1;");
        x.weather(1);
        bought("1 against 1", x, 1, 1, 0);
        x = against(2, 99, 2, "price 1;");
        x.weather(1);
        bought("1 against 1", x, 2, 2, 0);

        Check.rule("BOUGHT: SAND to be got over");
        bought("0 against 3", against(2, 99, 3, "price 1;sand left 7;"), 9, 9, 0);

        Check.rule("BOUGHT: snow is as dry; of one that was PUT too");
        x = against(5, 99, 6, "price 1;");
        x.put(0);
        x.weather(2);
        bought("5 against 6", x, 2, 2, 0);

        Check.rule("BOUGHT: of as much COIN and as many IRONS as there may be");
        StringBuilder wants = new StringBuilder(TEN.replace(" 1 0;", " 0 99;").replace("hand j z 0 99;", "hand j z 20 99 child;"));
        for (char name = 'a'; name <= 'i'; name++) {
            wants.append("wants ").append(name).append(" q left;");
        }
        x = Check.valley(wants + "wants j q right;echo right 99;price 9;wage 9;");
        x.days(60);
        bought("0 against 139", x, 140 * 9, 0, 0, 20, 20, 20, 20, 20, 20, 20, 0);
        x.lay(0, 3);
        bought("0 against 139, 17 by each of eight", x, 167 * 9, 7, 20, 20, 20, 20, 20, 20, 20, 20, 0);
    }

    private static void boughtWho() {
        String text = "street s;hand a s 1 99;hand b s 1 99;hand c s 1 99;hand d s 9 99;question q;wants b q left;wants d q right;price 1;";
        Check.rule("BOUGHT: HANDS that want a QUESTION by the left buy, by the right or by none do not");
        bought("b alone", Check.valley(text), 9, 0, 9, 0, 0);

        Check.rule("BOUGHT: who is on STRIKE does not buy");
        ClogVotes x = Check.valley(text + "wants a q left;wants c q left;");
        x.strike(1);
        x.strike(2);
        bought("a alone", x, 9, 9, 0, 0, 0);
        x.strike(0);
        Check.same("bought(0): all on STRIKE", x.bought(0), Check.NONE);
        x.strike(3);
        Check.same("bought(0): all on STRIKE, against nobody", x.bought(0), Check.NONE);

        Check.rule("BOUGHT: each as many as its COIN lets it");
        x = Check.valley("street s;hand a s 0 99;hand b s 0 7;hand c s 0 2;hand d s 9 99;question q;wants a q left;wants b q left;"
                + "wants c q left;wants d q right;price 3;");
        bought("2 of b, none of c", x, 30, 8, 2, 0, 0);

        Check.rule("BOUGHT: each as many as 20 let it");
        x = Check.valley("street s;hand a s 3 99;hand b s 18 99;hand c s 20 99;hand d s 20 99 child;question q;wants a q left;wants b q left;"
                + "wants c q left;wants d q right;price 1;sand left 0;echo right 3;");
        bought("41 against 43", x, 3, 1, 2, 0, 0);

        Check.rule("BOUGHT: the least COIN in all: by the child");
        x = Check.valley("street s;hand a s 1 99;hand b s 1 99 child;hand c s 1 99;hand d s 11 99;question q;wants a q left;wants b q left;"
                + "wants c q left;wants d q right;price 1;");
        bought("4 against 11", x, 4, 0, 4, 0, 0);
    }

    private static void boughtFirst() {
        Check.rule("BOUGHT: of like ones the first: HAND by HAND the fewest IRONS");
        ClogVotes x = Check.valley("street s;hand a s 1 99;hand b s 1 99;hand c s 1 99;hand d s 9 99;question q;wants a q left;wants b q left;"
                + "wants c q left;wants d q right;price 1;");
        bought("all by the last", x, 7, 0, 0, 7, 0);
        x = Check.valley("street s;hand a s 1 99;hand b s 1 99;hand c s 1 2;hand d s 9 99;question q;wants a q left;wants b q left;"
                + "wants c q left;wants d q right;price 1;");
        bought("what the last can, the rest by the one ahead of it", x, 7, 0, 5, 2, 0);
        x = Check.valley("street s;hand a s 2 99;hand b s 1 99;hand c s 1 99;hand d s 4 99;question q;wants a q left;wants b q left;"
                + "wants c q left;wants d q right;price 1;");
        x.weather(1);
        bought("wet, 1 against 2: two ones or a two", x, 2, 0, 1, 1, 0);
        x.strike(2);
        bought("wet, without c", x, 3, 0, 3, 0, 0);

        Check.rule("BOUGHT: HAND by HAND the fewest IRONS, of what is left of the least COIN");
        String text = "street s;hand a s 1 1 child;hand b s 1 3 child;hand c s 1 99;hand d s % 0;question q;wants a q left;wants b q left;"
                + "wants c q left;wants d q right;price 1;";
        bought("5 against 15", Check.valley(text.replace("%", "15")), 7, 1, 3, 3, 0);
        bought("5 against 11", Check.valley(text.replace("%", "11")), 4, 0, 3, 1, 0);
        bought("5 against 12", Check.valley(text.replace("%", "12")), 4, 1, 3, 0, 0);
        bought("5 against 10", Check.valley(text.replace("%", "10")), 3, 0, 3, 0, 0);
        bought("5 against 8", Check.valley(text.replace("%", "8")), 2, 0, 2, 0, 0);

        Check.rule("BOUGHT: by HANDS of this VALLEY, not of one that had more");
        x = Check.valley(text.replace("%", "15"));
        bought("of four", x, 7, 1, 3, 3, 0);
        Check.tell(x, "street s;hand a s 1 9;hand b s 5 9;question q;wants a q left;wants b q right;price 1;");
        x.valley();
        bought("of two", x, 5, 5, 0, Check.NONE);
        x.lay(0, 5);
        Check.same("bought(0) of two: 5 against 5", x.bought(0), Check.NONE);
    }

    private static void buys() {
        Check.rule("29: NONE ahead of any");
        ClogVotes x = against(5, 4, 6, "");
        Check.same("buys(0)", x.buys(0), Check.NONE);
        Check.same("buys(0) of nobody", new ClogVotes().buys(0), Check.NONE);

        Check.rule("29: NONE ahead of any that was not NONE");
        x.lay(0, 20);
        Check.same("bought(0)", x.bought(0), Check.NONE);
        Check.same("bought(1)", x.bought(1), Check.NONE);
        Check.same("buys(0)", x.buys(0), Check.NONE);

        Check.rule("29: by the latest bought() that was not NONE");
        x.lay(0, 0);
        bought("5 against 6", x, 4, 2, 0);
        x.lay(0, 20);
        Check.same("bought(0)", x.bought(0), Check.NONE);
        Check.same("bought(-1)", x.bought(-1), Check.NONE);
        Check.same("buys(0)", x.buys(0), 2);
        Check.same("buys(1)", x.buys(1), 0);
        x.lay(0, 0);
        x.lay(1, 2);
        bought("5 against 4", x, 0, 0, 0);

        Check.rule("29: NONE: no such one");
        for (int h : Edges.beyond(3)) {
            Edges.unchanged("buys(" + h + ")", y -> y.buys(h), Check.NONE);
        }

        Check.rule("29: NONE: no such one (of the HANDS there were then)");
        x = against(5, 4, 6, "");
        x.bought(0);
        Check.tell(x, TEN);
        Check.same("valley()", x.valley(), 12);
        Check.same("buys(1) of the two", x.buys(1), 0);
        Check.same("buys(0) of the two", x.buys(0), 2);
        Check.same("buys(2) of ten now", x.buys(2), Check.NONE);
        x = Check.valley(TEN + "wants a q left;");
        Check.same("bought(0)", x.bought(0), 0);
        x.valley();
        Check.same("buys(9) of the ten", x.buys(9), 0);
        Check.same("buys(10) of the ten", x.buys(10), Check.NONE);

        Check.rule("29: BOUGHT without HANDS is never");
        x = Check.valley("question q;");
        Check.same("bought(0)", x.bought(0), Check.NONE);
        Check.same("buys(0)", x.buys(0), Check.NONE);
    }

    private static void agendaNone() {
        Check.rule("30: no QUESTIONS: 0");
        ClogVotes x = new ClogVotes();
        Check.same("agenda()", x.agenda(), 0);
        Check.same("agendaAt(0)", x.agendaAt(0), Check.NONE);

        Check.rule("30: all were PUT: 0");
        x = Check.valley("street s;hand a s 1 0;question q;question r;wants a q left;wants a r left;");
        x.put(0);
        x.days(1);
        x.put(1);
        Check.same("agenda()", x.agenda(), 0);
        Check.same("agendaAt(0)", x.agendaAt(0), Check.NONE);

        Check.rule("30: none is CARRIED: 0, all of them in their order");
        x = Check.valley("question e;question d;question c;question b;question a;");
        Check.same("agenda()", x.agenda(), 0);
        for (int k = 0; k < 5; k++) {
            Check.same("agendaAt(" + k + ")", x.agendaAt(k), k);
        }

        Check.rule("30: AGENDA changes nothing that is so");
        x = Edges.lively();
        String ahead = Edges.isSo(x);
        x.agenda();
        Check.sameText("what is so", Edges.isSo(x), ahead);
        Edges.sameUndone("agenda()", x, Edges.lively());
    }

    private static String chain() {
        return "street a;street b;street c;street d;street e;hand k a 0 0;hand l b 0 0;hand m c 0 0;hand n d 0 0;hand o e 1 0;"
                + "question f;question g;question h;question i;question j;wants k f left;wants l g left;wants m h left;wants n i left;wants o j left;"
                + "grants j d 1;grants i c 1;grants h b 1;grants g a 1;";
    }

    private static void agenda() {
        Check.rule("30: all five CARRIED, in the last of all orders");
        ClogVotes x = Check.valley(chain());
        Check.same("agenda()", x.agenda(), 5);
        for (int k = 0; k < 5; k++) {
            Check.same("agendaAt(" + k + ")", x.agendaAt(k), 4 - k);
        }
        x.strike(1);
        Check.same("agenda() with l on STRIKE: j, i, h", x.agenda(), 3);

        Check.rule("AGENDA: all QUESTIONS that were not PUT");
        x = Check.valley(chain());
        x.put(4);
        Check.same("agenda()", x.agenda(), 4);
        for (int k = 0; k < 4; k++) {
            Check.same("agendaAt(" + k + ")", x.agendaAt(k), 3 - k);
        }
        Check.same("agendaAt(4)", x.agendaAt(4), Check.NONE);

        Check.rule("AGENDA: as if it were dry");
        for (int k = 1; k < 3; k++) {
            x = Check.valley(chain());
            x.weather(k);
            Check.same("agenda() in WEATHER " + k, x.agenda(), 5);
            Check.same("now(1)", x.now(1), k);
        }

        Check.rule("AGENDA: each on a DAY of its own, if one was PUT on this DAY too, and on DAY 400");
        x = Check.valley(chain());
        for (int i = 0; i < 7; i++) {
            x.days(60);
        }
        x.put(4);
        Check.same("agenda()", x.agenda(), 4);

        Check.rule("AGENDA: 20 IRONS at most by what is granted");
        String text = "street s;street t;hand a s 15 0;hand b t 10 0 child;question q;question r;wants a q left;wants a r left;wants b r right;grants q s ";
        Check.same("agenda(): 20 against 20", Check.valley(text + "9;").agenda(), 1);
        Check.same("agenda(): 20 against 19", Check.valley(text.replace("b t 10 0 child", "b t 19 0") + "9;").agenda(), 2);
        Check.same("agenda(): 19 against 19", Check.valley(text.replace("b t 10 0 child", "b t 19 0") + "4;").agenda(), 1);

        Check.rule("AGENDA: what is LOST grants nothing");
        x = Check.valley("street s;street t;hand a s 0 0;question q;question r;wants a q left;wants a r left;grants q s 9;grants r s 9;");
        Check.same("agenda()", x.agenda(), 0);

        Check.rule("AGENDA: no COIN, nobody else does anything: on STRIKE, SAND stay");
        x = Check.valley(chain().replace("hand o e 1 0", "hand o e 1 99"));
        x.lay(0, 1);
        Check.same("agenda() under SAND", x.agenda(), 0);
        x.lay(0, 0);
        x.strike(4);
        Check.same("agenda() with o on STRIKE", x.agenda(), 0);
    }

    private static void agendaFirst() {
        Check.rule("AGENDA: of like ones the first: the least QUESTION ahead");
        ClogVotes x = Check.valley("street s;street t;hand a s 2 0;hand b t 3 0;question q;question r;question p;wants a q left;wants b q right;"
                + "wants a r left;wants b p right;grants r s 5;");
        Check.same("agenda(): r ahead of q, p anywhere", x.agenda(), 2);
        int[] due = {1, 0, 2};
        for (int k = 0; k < 3; k++) {
            Check.same("agendaAt(" + k + ")", x.agendaAt(k), due[k]);
        }
        x = Check.valley("street s;street t;hand a s 2 0;hand b t 3 0;question p;question q;question r;wants a q left;wants b q right;"
                + "wants a r left;wants b p right;grants r s 5;");
        Check.same("agenda(): r ahead of q, p anywhere", x.agenda(), 2);
        due = new int[] {0, 2, 1};
        for (int k = 0; k < 3; k++) {
            Check.same("agendaAt(" + k + ")", x.agendaAt(k), due[k]);
        }

        Check.rule("AGENDA: the most are CARRIED, ahead of the least QUESTION");
        x = Check.valley("street s;street t;hand a s 2 0;hand b t 1 0;question q;question r;wants a q left;wants a r left;wants b r right;grants q t 9;");
        Check.same("agenda()", x.agenda(), 2);
        Check.same("agendaAt(0)", x.agendaAt(0), 1);
        Check.same("agendaAt(1)", x.agendaAt(1), 0);
    }

    private static void agendaAt() {
        Check.rule("31: NONE ahead of any");
        ClogVotes x = Check.valley("question q;question r;question p;");
        Check.same("agendaAt(0)", x.agendaAt(0), Check.NONE);

        Check.rule("31: NONE: none such");
        for (int k : Edges.beyond(3)) {
            Edges.unchanged("agendaAt(" + k + ")", y -> y.agendaAt(k), Check.NONE);
        }

        Check.rule("31: by the latest agenda(): fewer QUESTIONS than ahead");
        x.agenda();
        Check.same("agendaAt(2)", x.agendaAt(2), 2);
        x.put(0);
        Check.same("agendaAt(2) stays", x.agendaAt(2), 2);
        x.agenda();
        Check.same("agendaAt(0)", x.agendaAt(0), 1);
        Check.same("agendaAt(1)", x.agendaAt(1), 2);
        Check.same("agendaAt(2)", x.agendaAt(2), Check.NONE);

        Check.rule("31: by the latest agenda(): of a VALLEY that is no more");
        x.valley();
        Check.same("agendaAt(1)", x.agendaAt(1), 2);
        x.agenda();
        Check.same("agendaAt(0)", x.agendaAt(0), Check.NONE);
    }

    private static void power() {
        Check.rule("32: NONE: no such one");
        for (int h : Edges.beyond(3)) {
            Edges.unchanged("power(" + h + ")", x -> x.power(h), Check.NONE);
        }
        Check.same("power(0) of nobody", new ClogVotes().power(0), Check.NONE);

        Check.rule("POWER of a HAND: of one alone there is one way");
        Check.same("power(0) of 1", Check.valley("street s;hand a s 1 0;").power(0), 1);
        Check.same("power(0) of 0", Check.valley("street s;hand a s 0 0;").power(0), 0);
        Check.same("power(0) under SAND", Check.valley("street s;hand a s 1 0;sand left 1;").power(0), 0);
        Check.same("power(0) with SAND on the right", Check.valley("street s;hand a s 1 0;sand right 20;").power(0), 1);

        Check.rule("POWER of a HAND: of ten there are 512 ways");
        ClogVotes x = Check.valley(TEN);
        for (int h = 0; h < 10; h++) {
            Check.same("power(" + h + ") of ten: five of nine others", x.power(h), 126);
        }
        x = Check.valley(TEN.replace("hand d z 1 0;", "hand d z 20 0 child;"));
        Check.same("power(3) of the loudest", x.power(3), 512);
        Check.same("power(4) of another", x.power(4), 0);
        x = Check.valley(TEN + "echo left 99;");
        Check.same("power(9) with an echo: of those who would be alone on the left", x.power(9), 1);

        Check.rule("POWER of a HAND: as loud is not louder");
        x = Check.valley("street s;hand a s 2 0;hand b s 2 0;");
        Check.same("power(0): b by the left alone", x.power(0), 1);
        Check.same("power(1)", x.power(1), 1);

        Check.rule("POWER of a HAND on STRIKE is 0, others by what is so now");
        x = Check.valley("street s;hand a s 3 0;hand b s 2 0;hand c s 2 0;question q;wants a q right;wants b q left;");
        x.strike(0);
        Check.same("power(0)", x.power(0), 0);
        Check.same("power(1)", x.power(1), 2);
        x.work(0);
        Check.same("power(1)", x.power(1), 2);
        x.weather(1);
        Check.same("power(1) wet, each 1", x.power(1), 2);
        x.lay(0, 1);
        Check.same("power(1) wet, under SAND", x.power(1), 0);
    }
}
