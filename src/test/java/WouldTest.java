/** Promises 21 to 32: noise, what would be carried, what must be won, sand, irons, the agenda, power. */
public final class WouldTest {
    public static void main(String[] args) {
        noise();
        would();
        win();
        winNobody();
        winStreets();
        sanded();
        bought();
        boughtFirst();
        boughtByThree();
        agenda();
        power();
        Check.finish("WouldTest");
    }

    private static void noise() {
        ClogVotes x = Check.valley("street s;hand a s 5 0;hand b s 4 0 child;hand c s 2 0;hand d s 9 0;question q;question r;"
                + "wants a q left;wants b q left;wants c q right;wants c r left;sand left 1;sand right 2;echo left 7;echo right 9;");
        Check.same("noise(0, 0)", x.noise(0, 0), 4 + 7 + 7);
        Check.same("noise(0, 1), nothing to echo", x.noise(0, 1), 0);
        Check.same("noise(1, 0)", x.noise(1, 0), 8);
        Check.same("noise(1, 1)", x.noise(1, 1), 0);
        x.lay(1, 1);
        Check.same("noise(0, 1)", x.noise(0, 1), 10);
        x.weather(1);
        Check.same("noise(0, 0) wet", x.noise(0, 0), 1 + 3 + 7);
        Check.same("noise(0, 1) wet", x.noise(0, 1), 0);
        x.weather(2);
        Check.same("noise(0, 0) in snow", x.noise(0, 0), 18);
        x.strike(1);
        Check.same("noise(0, 0) without b", x.noise(0, 0), 11);
        Check.same("noise(2, 0)", x.noise(2, 0), Check.NONE);
        Check.same("noise(-1, 0)", x.noise(-1, 0), Check.NONE);
        Check.same("noise(0, 2)", x.noise(0, 2), Check.NONE);
        Check.same("noise(0, -1)", x.noise(0, -1), Check.NONE);
    }

    private static void would() {
        ClogVotes x = Check.valley("street s;hand a s 5 0;hand b s 5 0;question q;question r;wants a q left;wants b q right;"
                + "wants a r left;");
        Check.same("would(0) of as loud ways", x.would(0), 0);
        Check.same("would(1)", x.would(1), 1);
        x.lay(1, 1);
        Check.same("would(0)", x.would(0), 1);
        x.weather(2);
        Check.same("would(0) in snow", x.would(0), 1);
        x.weather(1);
        Check.same("would(0) wet", x.would(0), 1);
        x.put(0);
        Check.same("would(0) of what was put", x.would(0), 1);
        x.lay(1, 0);
        Check.same("would(0) of what was put", x.would(0), 0);
        Check.same("would(2)", x.would(2), Check.NONE);
        Check.same("would(-1)", x.would(-1), Check.NONE);
    }

    private static void win() {
        ClogVotes x = Check.valley("street s;hand a s 1 0;hand b s 3 0;hand c s 9 0;hand d s 3 0;hand e s 3 0;question q;question r;"
                + "wants a q left;wants c q right;wants b q right;wants a r left;echo right 2;");
        Check.same("won() ahead of any", x.won(), Check.NONE);
        Check.same("win(0): 1 against 14", x.win(0), 1);
        Check.same("won(): c", x.won(), 4);
        Check.same("win(1), already", x.win(1), 0);
        Check.same("won(): nobody", x.won(), 0);
        x.strike(2);
        Check.same("win(0): 1 against 5", x.win(0), 1);
        Check.same("won(): b, the least of like ones", x.won(), 2);
        x.work(2);
        x.lay(1, 2);
        x.lay(0, 2);
        Check.same("win(0): 0 against 10", x.win(0), 1);
        Check.same("won(): c", x.won(), 4);
        x.put(0);
        Check.same("win(0) of what was put", x.win(0), 1);
        Check.same("win(2)", x.win(2), Check.NONE);
        Check.same("win(-1)", x.win(-1), Check.NONE);
        Check.same("won() stays", x.won(), 4);
        ClogVotes y = Check.valley("street s;hand a s 5 0;hand b s 2 0;hand c s 2 0;hand d s 2 0;question q;wants a q right;sand right 0;");
        y.sway(1, 0, 1);
        Check.same("win(0): all against 7", y.win(0), 1);
        Check.same("won(): a", y.won(), 1);
        y.strike(0);
        y.lay(0, 1);
        y.sway(2, 0, 1);
        y.sway(3, 0, 1);
        Check.same("win(0): 0 against 6", y.win(0), 3);
        Check.same("won()", y.won(), 14);
    }

    private static void winNobody() {
        ClogVotes x = Check.valley("street s;hand a s 5 0;hand b s 5 0;question q;question r;wants a q right;wants a r left;sand left 5;");
        Check.same("win(0) by none", x.win(0), Check.NONE);
        Check.same("won() ahead of any", x.won(), Check.NONE);
        Check.same("winStreets(0) by none", x.winStreets(0), Check.NONE);
        Check.same("wonStreets() ahead of any", x.wonStreets(), Check.NONE);
        x.lay(0, 4);
        x.win(0);
        Check.same("won()", x.won(), 1);
        x.lay(0, 20);
        Check.same("win(0) by none", x.win(0), Check.NONE);
        Check.same("won() stays", x.won(), 1);
    }

    private static void winStreets() {
        ClogVotes x = Check.valley("street s;street t;street u;street v;hand a s 2 0;hand b t 3 0;hand c t 4 0;hand d u 8 0;hand e v 8 0;"
                + "question q;wants a q left;wants b q left;wants c q right;wants d q right;wants e q right;");
        Check.same("winStreets(0): 5 against 20", x.winStreets(0), 1);
        Check.same("wonStreets(): u", x.wonStreets(), 4);
        x.strike(3);
        Check.same("winStreets(0): 5 against 12", x.winStreets(0), 1);
        Check.same("wonStreets(): t", x.wonStreets(), 2);
        x.strike(4);
        Check.same("winStreets(0), already", x.winStreets(0), 0);
        Check.same("wonStreets()", x.wonStreets(), 0);
        x.work(3);
        x.work(4);
        x.lay(0, 5);
        Check.same("winStreets(0): 0 against 20", x.winStreets(0), 2);
        Check.same("wonStreets(): u and v", x.wonStreets(), 12);
        Check.same("winStreets(1)", x.winStreets(1), Check.NONE);
        Check.same("winStreets(-1)", x.winStreets(-1), Check.NONE);
        Check.same("wonStreets() stays", x.wonStreets(), 12);
    }

    private static void sanded() {
        ClogVotes x = Check.valley("street s;hand a s 1 0;hand b s 20 0 child;hand c s 5 0;question q;question r;question p;"
                + "wants a q left;wants b q right;wants c q right;wants c r left;wants a p right;sand right 9;");
        Check.same("sanded(0) of 40", x.sanded(0), Check.NONE);
        Check.same("sanded(1)", x.sanded(1), 0);
        Check.same("sanded(2), nobody on the left", x.sanded(2), Check.NONE);
        x.strike(1);
        Check.same("sanded(0) of 5", x.sanded(0), 5);
        x.work(1);
        x.weather(1);
        Check.same("sanded(0) with a of 0", x.sanded(0), Check.NONE);
        x.buy(0, 1);
        Check.same("sanded(0) wet, with a of 0", x.sanded(0), Check.NONE);
        Check.same("sanded(3)", x.sanded(3), Check.NONE);
        Check.same("sanded(-1)", x.sanded(-1), Check.NONE);
        Check.same("way(1, 0) stays", x.way(1, 0), 9);
        ClogVotes y = Check.valley("street s;hand a s 1 0;hand b s 20 0;question q;wants a q left;wants b q right;echo right 99;");
        Check.same("sanded(0) of 20", y.sanded(0), 20);
        ClogVotes z = Check.valley("street s;hand a s 2 0;hand b s 20 0;question q;wants a q left;wants b q right;");
        Check.same("sanded(0) of 20, a 2", z.sanded(0), 19);
    }

    private static void bought() {
        ClogVotes x = Check.valley("street s;hand a s 3 9;hand b s 2 4;hand c s 9 99;question q;question r;"
                + "wants a q left;wants b q left;wants c q right;price 2;");
        Check.same("buys(0) ahead of any", x.buys(0), Check.NONE);
        Check.same("bought(1), nobody on the left", x.bought(1), Check.NONE);
        Check.same("buys(0) ahead of any", x.buys(0), Check.NONE);
        Check.same("bought(0): 5 against 9", x.bought(0), 10);
        Check.same("buys(0)", x.buys(0), 3);
        Check.same("buys(1)", x.buys(1), 2);
        Check.same("buys(2)", x.buys(2), 0);
        Check.same("buys(3)", x.buys(3), Check.NONE);
        Check.same("buys(-1)", x.buys(-1), Check.NONE);
        x.buy(2, 2);
        Check.same("bought(0): 5 against 11, 6 can be bought", x.bought(0), Check.NONE);
        Check.same("buys(0) stays", x.buys(0), 3);
        x.strike(2);
        Check.same("bought(0), already", x.bought(0), 0);
        Check.same("buys(0)", x.buys(0), 0);
        Check.same("bought(2)", x.bought(2), Check.NONE);
        Check.same("bought(-1)", x.bought(-1), Check.NONE);
        Check.tell(x, "street s;");
        x.valley();
        Check.same("buys(2) of the hands there were", x.buys(2), 0);
        Check.same("buys(3)", x.buys(3), Check.NONE);
        ClogVotes full = Check.valley("street s;hand a s 19 99;hand b s 19 99;hand c s 20 0 child;question q;"
                + "wants a q left;wants b q left;wants c q right;");
        Check.same("bought(0), 40 against 40", full.bought(0), Check.NONE);
        full.weather(1);
        Check.same("bought(0) wet, 18 against 20", full.bought(0), Check.NONE);
    }

    private static void boughtFirst() {
        ClogVotes x = Check.valley("street s;hand a s 5 20;hand b s 5 20;hand c s 13 0;question q;"
                + "wants a q left;wants b q left;wants c q right;price 1;");
        Check.same("bought(0): 10 against 13", x.bought(0), 4);
        Check.same("buys(0), the fewest for the first", x.buys(0), 0);
        Check.same("buys(1)", x.buys(1), 4);
        x.weather(1);
        Check.same("bought(0) wet: 2 and 2 against 6", x.bought(0), 4);
        Check.same("buys(0)", x.buys(0), 1);
        Check.same("buys(1)", x.buys(1), 3);
        x.strike(1);
        Check.same("bought(0) without b: 2 against 6", x.bought(0), 9);
        Check.same("buys(0)", x.buys(0), 9);
        Check.same("buys(1)", x.buys(1), 0);
        ClogVotes y = Check.valley("street s;hand a s 1 9;hand b s 1 9 child;hand c s 4 0;question q;"
                + "wants a q left;wants b q left;wants c q right;price 3;echo left 1;sand left 2;");
        Check.same("bought(0): 0 and 0 against 4", y.bought(0), 6);
        Check.same("buys(0)", y.buys(0), 0);
        Check.same("buys(1), a child", y.buys(1), 2);
    }

    private static void boughtByThree() {
        ClogVotes x = Check.valley("street s;hand a s 1 3 child;hand b s 1 15 child;hand c s 1 99;hand d s 17 0;question q;"
                + "wants a q left;wants b q left;wants c q left;wants d q right;price 3;sand left 2;");
        // 0 and 0 and 0 against 17: a adds 2 by its one, b 10 by its five, c the rest but for its first
        Check.same("bought(0)", x.bought(0), 39);
        Check.same("buys(0)", x.buys(0), 1);
        Check.same("buys(1)", x.buys(1), 5);
        Check.same("buys(2)", x.buys(2), 7);
        x.lay(1, 6);
        // against 11: a and b together, none for c
        Check.same("bought(0)", x.bought(0), 18);
        Check.same("buys(0)", x.buys(0), 1);
        Check.same("buys(1)", x.buys(1), 5);
        Check.same("buys(2)", x.buys(2), 0);
        x = Check.valley("street s;hand a s 9 0;hand b s 9 0;hand c s 9 0;question q;wants a q left;wants b q left;wants c q left;");
        Check.same("bought(0), already", x.bought(0), 0);
        Check.tell(x, "street s;hand a s 1 3;hand b s 4 0;question q;wants a q left;wants b q right;price 1;");
        x.valley();
        Check.same("bought(0) of fewer hands", x.bought(0), Check.NONE);
        x.lay(1, 1);
        Check.same("bought(0) of fewer hands", x.bought(0), 3);
        Check.same("buys(0)", x.buys(0), 3);
        Check.same("buys(2)", x.buys(2), Check.NONE);
    }

    private static void agenda() {
        ClogVotes x = Check.valley("street s;street t;hand a s 2 0;hand b t 3 0;question q;question r;question p;"
                + "wants a q left;wants b q right;wants a r left;wants b p right;grants r s 5;");
        Check.same("agendaAt(0) ahead of any", x.agendaAt(0), Check.NONE);
        Check.same("agenda()", x.agenda(), 2);
        Check.same("agendaAt(0)", x.agendaAt(0), 1);
        Check.same("agendaAt(1)", x.agendaAt(1), 0);
        Check.same("agendaAt(2)", x.agendaAt(2), 2);
        Check.same("agendaAt(3)", x.agendaAt(3), Check.NONE);
        Check.same("agendaAt(-1)", x.agendaAt(-1), Check.NONE);
        Check.same("nothing was put", x.now(5) + x.now(6) + x.now(3), 5);
        x.weather(1);
        Check.same("agenda() as if it were dry", x.agenda(), 2);
        x.weather(2);
        Check.same("agenda() as if it were dry", x.agenda(), 2);
        Check.same("now(1) stays", x.now(1), 2);
        x.weather(0);
        x.put(1);
        Check.same("agenda() of what was not put", x.agenda(), 1);
        Check.same("agendaAt(0)", x.agendaAt(0), 0);
        Check.same("agendaAt(1)", x.agendaAt(1), 2);
        Check.same("agendaAt(2)", x.agendaAt(2), Check.NONE);
        x.strike(0);
        Check.same("agenda() with a on strike", x.agenda(), 0);
        ClogVotes y = Check.valley("street s;street t;hand a s 2 0;hand b t 3 0;question q;question r;question p;"
                + "wants a q right;wants b q left;wants a r left;wants b r right;wants a p left;grants p s 1;grants p t 1;grants q s 2;");
        Check.same("agenda(): q, r, p", y.agenda(), 3);
        Check.same("agendaAt(0)", y.agendaAt(0), 0);
        Check.same("agendaAt(1)", y.agendaAt(1), 1);
        Check.same("agendaAt(2)", y.agendaAt(2), 2);
    }

    private static void power() {
        ClogVotes x = Check.valley("street s;hand a s 3 0;hand b s 2 0;hand c s 2 0;question q;");
        Check.same("power(0)", x.power(0), 2);
        Check.same("power(1)", x.power(1), 2);
        Check.same("power(2)", x.power(2), 2);
        x.strike(1);
        Check.same("power(0) against c", x.power(0), 4);
        Check.same("power(1) on strike", x.power(1), 0);
        Check.same("power(2) against a", x.power(2), 0);
        Check.same("power(3)", x.power(3), Check.NONE);
        Check.same("power(-1)", x.power(-1), Check.NONE);
        x.lay(1, 3);
        Check.same("power(0) with sand on the right", x.power(0), 2);
        Check.same("power(2) with sand on the right", x.power(2), 2);
    }
}
