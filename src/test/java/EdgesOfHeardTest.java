/** The edges of promises 33 to 37: what was heard, who went there surely, whom to ask, what the crier says. */
public final class EdgesOfHeardTest {
    private static final String TEN = "street z;hand a z 1 0;hand b z 1 0;hand c z 1 0;hand d z 1 0;hand e z 1 0;"
            + "hand f z 1 0;hand g z 1 0;hand h z 1 0;hand i z 1 0;hand j z 1 0;";
    private static final String THREE = "street s;hand a s 3 0;hand b s 4 0;hand c s 7 0;";

    public static void main(String[] args) {
        twoBytes();
        howFarOff();
        sets();
        surely();
        ask();
        nobody();
        crier();
        byteAt();
        Check.finish("EdgesOfHeardTest");
    }

    private static void twoBytes() {
        Check.rule("33: NONE: not as told: none, one, three bytes, a full tape");
        for (int bytes : new int[] {0, 1, 3, 4, 20, 940}) {
            ClogVotes x = Check.valley(THREE);
            Check.tell(x, Check.times("" + (char) 0, bytes));
            Check.same("heard() of " + bytes + " bytes", x.heard(), Check.NONE);
        }
        ClogVotes two = Check.valley(THREE);
        Check.tell(two, Check.times("" + (char) 0, 2));
        Check.same("heard() of 2 bytes", two.heard(), 1);

        Check.rule("HEARD by the tape: it is empty then in any case");
        for (int bytes : new int[] {0, 1, 2, 3, 940}) {
            ClogVotes x = Check.valley(THREE);
            Check.tell(x, Check.times("a", bytes));
            x.heard();
            Check.same("count(5) behind heard() of " + bytes + " bytes", x.count(5), 0);
        }

        Check.rule("HEARD: blanks are bytes too");
        ClogVotes x = Check.valley(TEN + "echo left 25;");
        Check.same("heard() of 32, 10", Check.heard(x, 32, 10), 1023);
        Check.same("heard() of 10, 32", Check.heard(x, 10, 32), 1024);

        Check.rule("HEARD: 0 to 255 each");
        x = Check.valley(TEN.replace(" 1 0;", " 20 0 child;"));
        Check.same("heard() of 0, 0", Check.heard(x, 0, 0), 1);
        Check.same("heard() of 255, 0", Check.heard(x, 255, 0), 0);
        Check.same("heard() of 0, 255", Check.heard(x, 0, 255), 1 + 10 + 45 + 120 + 210 + 252 + 210);
        Check.same("heard() of 255, 255", Check.heard(x, 255, 255), 1024);
        Check.same("heard() of 240, 0", Check.heard(x, 240, 0), 210);
        Check.same("heard() of 128, 8", Check.heard(x, 128, 8), 120);
    }

    private static void howFarOff() {
        Check.rule("HEARD: how far it may be off, below and above");
        ClogVotes x = Check.valley("street s;hand a s 20 0;");
        Check.same("heard() of 15, 4", Check.heard(x, 15, 4), 0);
        Check.same("heard() of 15, 5", Check.heard(x, 15, 5), 1);
        Check.same("heard() of 25, 4", Check.heard(x, 25, 4), 0);
        Check.same("heard() of 25, 5", Check.heard(x, 25, 5), 1);
        Check.same("heard() of 20, 0", Check.heard(x, 20, 0), 1);
        Check.same("heard() of 19, 0", Check.heard(x, 19, 0), 0);
        Check.same("heard() of 21, 0", Check.heard(x, 21, 0), 0);
        Check.same("heard() of 10, 9", Check.heard(x, 10, 9), 0);
        Check.same("heard() of 10, 10", Check.heard(x, 10, 10), 2);
    }

    private static void sets() {
        Check.rule("HEARD: sets of HANDS that may have gone there: the empty one, and all ten");
        ClogVotes x = Check.valley(TEN);
        Check.same("heard() of 0, 0", Check.heard(x, 0, 0), 1);
        Check.same("heard() of 10, 0", Check.heard(x, 10, 0), 1);
        Check.same("heard() of 5, 0", Check.heard(x, 5, 0), 252);
        Check.same("heard() of 5, 5", Check.heard(x, 5, 5), 1024);
        Check.same("heard() of 11, 0", Check.heard(x, 11, 0), 0);

        Check.rule("HEARD: with the echo of the left, if anything is heard");
        x = Check.valley(THREE + "echo left 50;echo right 9;sand right 20;");
        Check.same("heard() of 50, 0", Check.heard(x, 50, 0), 0);
        Check.same("heard() of 0, 0", Check.heard(x, 0, 0), 1);
        Check.same("heard() of 57, 0: c, or a and b", Check.heard(x, 57, 0), 2);

        Check.rule("HEARD: by what is so now: who is on STRIKE is in sets and out");
        x.strike(2);
        Check.same("heard() of 57, 0: a and b, with c or without", Check.heard(x, 57, 0), 2);
        Check.same("surely()", x.surely(), 3);
        x.weather(1);
        Check.same("heard() of 53, 0: 1 and 2", Check.heard(x, 53, 0), 2);
        x.lay(0, 1);
        Check.same("heard() of 51, 0: 0 and 1", Check.heard(x, 51, 0), 4);
        Check.same("surely()", x.surely(), 2);

        Check.rule("HEARD: whatever HANDS want");
        x = Check.valley(THREE + "question q;wants a q right;wants b q right;wants c q right;");
        x.put(0);
        Check.same("heard() of 14, 0", Check.heard(x, 14, 0), 1);
        Check.same("surely()", x.surely(), 7);
    }

    private static void surely() {
        Check.rule("34: NONE ahead of any");
        ClogVotes x = Check.valley(THREE);
        Check.same("surely()", x.surely(), Check.NONE);

        Check.rule("34: NONE ahead of any heard() above 0");
        Check.same("heard() of 5, 0", Check.heard(x, 5, 0), 0);
        Check.same("heard() of nothing", x.heard(), Check.NONE);
        Check.same("surely()", x.surely(), Check.NONE);

        Check.rule("34: HANDS in each of these sets, as bits: all, some, none");
        Check.heard(x, 14, 0);
        Check.same("surely() of abc", x.surely(), 7);
        Check.heard(x, 11, 1);
        Check.same("surely() of bc and ac", x.surely(), 4);
        Check.heard(x, 7, 0);
        Check.same("surely() of c and ab", x.surely(), 0);
        Check.heard(x, 0, 0);
        Check.same("surely() of nobody", x.surely(), 0);

        Check.rule("34: by the latest heard() above 0");
        Check.heard(x, 14, 0);
        Check.heard(x, 5, 0);
        Check.same("surely() behind heard() of 0", x.surely(), 7);
        x.heard();
        Check.same("surely() behind heard() of NONE", x.surely(), 7);

        Check.rule("34: as it was then: behind acts and a new VALLEY");
        x.strike(0);
        x.days(1);
        Check.same("surely() behind acts", x.surely(), 7);
        x.valley();
        Check.same("surely() behind a new VALLEY", x.surely(), 7);
    }

    private static void ask() {
        Check.rule("35: NONE ahead of any");
        ClogVotes x = Check.valley(THREE);
        Check.same("ask()", x.ask(), Check.NONE);

        Check.rule("35: NONE ahead of any heard() above 0");
        Check.same("heard() of 5, 0", Check.heard(x, 5, 0), 0);
        Check.same("heard() of nothing", x.heard(), Check.NONE);
        Check.same("ask()", x.ask(), Check.NONE);

        Check.rule("ASK: the HAND that is in as many of them as not");
        Check.same("heard() of 11, 1: bc and ac, a and b in one", Check.heard(x, 11, 1), 2);
        Check.same("ask()", x.ask(), 0);
        x.strike(1);
        Check.same("heard() of 10, 0: ac, with b or without", Check.heard(x, 10, 0), 2);
        Check.same("ask()", x.ask(), 1);
        x.work(1);
        x.strike(2);
        Check.same("heard() of 7, 0: ab, with c or without", Check.heard(x, 7, 0), 2);
        Check.same("ask(), the last one", x.ask(), 2);
        x.work(2);

        Check.rule("ASK: as nearly as may be: in one less, or in one more than not");
        x = Check.valley("street s;hand a s 20 0;hand b s 2 0;hand c s 5 0;hand d s 1 0;");
        // 5: c, 6: cd, 7: bc: c in three, b and d in one of three
        Check.same("heard() of 6, 1", Check.heard(x, 6, 1), 3);
        Check.same("surely(): c", x.surely(), 4);
        Check.same("ask(): b", x.ask(), 1);
        x = Check.valley("street s;hand a s 20 0;hand b s 5 0;hand c s 2 0;hand d s 1 0;hand e s 2 0;");
        // 9: bce, 10: bcde, 8: bcd, bde: b in four, c in three, d in three, e in three of four
        Check.same("heard() of 9, 1", Check.heard(x, 9, 1), 4);
        Check.same("ask(): c", x.ask(), 2);
        x = Check.valley("street s;hand a s 9 0;hand b s 1 0;hand c s 8 0;hand d s 2 0;hand e s 4 0;");
        // 9: a, bc, 10: ab, cd, 8: c: a in two, b in two, c in three of five
        Check.same("heard() of 9, 1", Check.heard(x, 9, 1), 5);
        Check.same("ask(): a", x.ask(), 0);
        // 1: b, 2: d, 3: bd, 4: e, 5: be: a in none, b in three of five
        Check.same("heard() of 3, 2", Check.heard(x, 3, 2), 5);
        Check.same("ask(): b", x.ask(), 1);
        // 20: abcd, 21: ace, 22: abce, 23: acde, 24: all: b in three of five
        Check.same("heard() of 22, 2", Check.heard(x, 22, 2), 5);
        Check.same("ask(): b", x.ask(), 1);

        Check.rule("ASK: of like ones the first");
        x = Check.valley(TEN);
        Check.same("heard() of 5, 0", Check.heard(x, 5, 0), 252);
        Check.same("ask(): all in half of them", x.ask(), 0);
        Check.same("heard() of 10, 0", Check.heard(x, 10, 0), 1);
        Check.same("ask(): all in all of them", x.ask(), 0);

        Check.rule("35: by that (as it was then)");
        x = Check.valley(THREE);
        x.strike(1);
        Check.heard(x, 10, 0);
        Check.same("ask()", x.ask(), 1);
        Check.heard(x, 5, 0);
        x.heard();
        x.work(1);
        Check.same("ask() behind 0, NONE and an act", x.ask(), 1);
        x.valley();
        Check.same("ask() behind a new VALLEY", x.ask(), 1);
    }

    private static void nobody() {
        Check.rule("33: of no HANDS there is the empty set");
        ClogVotes x = new ClogVotes();
        Check.same("heard() of 0, 0", Check.heard(x, 0, 0), 1);
        Check.same("heard() of 1, 0", Check.heard(x, 1, 0), 0);
        Check.same("heard() of 1, 1", Check.heard(x, 1, 1), 1);
        Check.same("surely()", x.surely(), 0);

        Check.rule("35: NONE: there were no HANDS");
        Check.same("ask()", x.ask(), Check.NONE);
        Check.tell(x, THREE);
        x.valley();
        Check.same("ask() as it was then", x.ask(), Check.NONE);
        Check.heard(x, 14, 0);
        Check.same("ask()", x.ask(), 0);
        x.valley();
        Check.heard(x, 0, 0);
        Check.same("ask() of nobody again", x.ask(), Check.NONE);
    }

    private static void crier() {
        Check.rule("36: NONE: no such one");
        for (int q : Edges.beyond(3)) {
            Edges.unchanged("crier(" + q + ")", x -> x.crier(q), Check.NONE);
        }
        Check.same("crier(0) of none", new ClogVotes().crier(0), Check.NONE);

        Check.rule("CRIER: ' is open', of a NAME of one letter and of eight");
        ClogVotes x = Check.valley("question a;question z;question abcdefgh;question zzzzzzzz;question az;");
        Check.same("crier(0)", x.crier(0), 9);
        Check.sameText("crier(0)", Check.cry(x, 0), "a is open");
        Check.sameText("crier(1)", Check.cry(x, 1), "z is open");
        Check.same("crier(2)", x.crier(2), 16);
        Check.sameText("crier(2)", Check.cry(x, 2), "abcdefgh is open");
        Check.sameText("crier(3)", Check.cry(x, 3), "zzzzzzzz is open");
        Check.sameText("crier(4)", Check.cry(x, 4), "az is open");

        Check.rule("CRIER: ' lost by ' 0, too");
        x.put(3);
        Check.same("crier(3)", x.crier(3), 18);
        Check.sameText("crier(3)", Check.cry(x, 3), "zzzzzzzz lost by 0");

        Check.rule("CRIER: ' carried by ' the least and the greatest");
        x = Check.valley("street s;hand k s 1 0;question q;wants k q left;");
        x.put(0);
        Check.sameText("crier(0)", Check.cry(x, 0), "q carried by 1");
        String loud = TEN.replace(" 1 0;", " 20 0 child;") + "question q;";
        for (char name = 'a'; name <= 'j'; name++) {
            loud += "wants " + name + " q left;";
        }
        x = Check.valley(loud + "echo left 99;");
        x.put(0);
        Check.same("crier(0)", x.crier(0), 16);
        Check.sameText("crier(0)", Check.cry(x, 0), "q carried by 499");

        Check.rule("CRIER: ' lost by ' how much louder the right was, then");
        x = Check.valley(loud.replace("left", "right") + "echo right 99;");
        x.put(0);
        x.strike(0);
        x.lay(1, 9);
        Check.sameText("crier(0)", Check.cry(x, 0), "q lost by 499");
        x = Check.valley("street s;hand k s 10 0;question q;wants k q right;");
        x.put(0);
        Check.sameText("crier(0)", Check.cry(x, 0), "q lost by 10");

        Check.rule("CRIER: ' is open' again behind undo()");
        x.undo();
        Check.sameText("crier(0)", Check.cry(x, 0), "q is open");
    }

    private static void byteAt() {
        Check.rule("37: NONE: none such, ahead of any");
        ClogVotes x = Check.valley("question q;question abcdefgh;");
        Check.same("byteAt(0)", x.byteAt(0), Check.NONE);
        Check.same("crier(2)", x.crier(2), Check.NONE);
        Check.same("byteAt(0) behind a crier() of NONE", x.byteAt(0), Check.NONE);

        Check.rule("37: NONE: none such, beyond");
        x.crier(0);
        Check.same("byteAt(8)", x.byteAt(8), 'n');
        for (int i : Edges.beyond(9)) {
            Check.same("byteAt(" + i + ")", x.byteAt(i), Check.NONE);
            Edges.unchanged("byteAt(" + i + ")", y -> y.byteAt(i), Check.NONE);
        }

        Check.rule("37: of the latest CRIER: a shorter one behind a longer one");
        x.crier(1);
        Check.same("byteAt(15)", x.byteAt(15), 'n');
        Check.same("byteAt(16)", x.byteAt(16), Check.NONE);
        x.crier(0);
        Check.same("byteAt(0)", x.byteAt(0), 'q');
        Check.same("byteAt(9)", x.byteAt(9), Check.NONE);

        Check.rule("37: of the latest CRIER: as it was cried");
        x.crier(-1);
        x.put(0);
        Check.same("byteAt(2) behind put(0)", x.byteAt(2), 'i');
        x.valley();
        Check.same("byteAt(0) behind a new VALLEY", x.byteAt(0), 'q');
        Check.same("byteAt(8) behind a new VALLEY", x.byteAt(8), 'n');
    }
}
