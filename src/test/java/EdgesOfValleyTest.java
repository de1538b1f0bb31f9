/** The edges of promise 4: TOKENS, the text of a VALLEY, a new VALLEY, and what stays. The sign | marks a fault's place. */
public final class EdgesOfValleyTest {
    private static final String SOME = "street s;street t;hand a s 5 9;hand b t 6 8 child;question q;question r;";
    private static final String[] WORDS = {"street", "hand", "child", "question", "wants", "left", "right", "grants", "sand",
        "echo", "price", "wage", "buys", "strikes", "works", "swayed", "put", "lay", "dry", "wet", "snow", "day", "or",
        "and", "not", "silent", "of", "for", "against", "irons", "coin", "number"};

    public static void main(String[] args) {
        tokens();
        numbersOfHands();
        numbersOfOthers();
        withoutLines();
        once();
        names();
        most();
        bytes();
        answers();
        stays();
        newValley();
        Check.finish("EdgesOfValleyTest");
    }

    private static void fine(String text, int lines) {
        ClogVotes x = new ClogVotes();
        Check.tell(x, text);
        Check.same("valley() of " + text, x.valley(), lines);
        Check.same("fault() of " + text, x.fault(), 0);
    }

    private static void fault(String marked, int kind) {
        ClogVotes x = new ClogVotes();
        int place = marked.indexOf('|');
        Check.tell(x, marked.substring(0, place) + marked.substring(place + 1));
        Check.same("valley() of " + marked, x.valley(), -1 - place);
        Check.same("fault() of " + marked, x.fault(), kind);
    }

    private static void tokens() {
        Check.rule("TOKENS: with blanks (32, 10) between them or not");
        fine("street a;hand b a 1 2 child;question c;", 3);
        fine(" street\na ; hand\n\nb  a \n1 2\nchild ;\n question c\n;\n ", 3);

        Check.rule("TOKENS: what is no blank and no sign is none");
        for (int one = 0; one < 256; one++) {
            boolean blank = one == 32 || one == 10;
            boolean run = one >= 'a' && one <= 'z' || one >= '0' && one <= '9';
            if (blank) {
                fine("price 1" + (char) one + ";", 1);
            } else if (!run && one != ';') {
                fault("price 1|" + (char) one + ";", 1);
            }
        }

        Check.rule("WORDS: small letters, 1 to 8");
        fine("street a;street z;street abcdefgh;street stuvwxyz;", 4);
        fault("street |abcdefghi;", 1);
        fault("street |" + Check.times("a", 30) + ";", 1);
        fault("street |A;", 1);
        fault("street |`;", 1);
        fault("street |{;", 1);

        Check.rule("WORDS: of a ninth letter on none is another one");
        fault("street abcdefgh;street |abcdefghi;", 1);
        fault("|streetsss a;", 1);
        fault("|streetss a;", 1);

        Check.rule("NUMBERS: 1 to 3 digits");
        fine(SOME + "hand c s 9 9;hand d s 09 09;hand e s 009 009;price 001;wage 000;", 11);
        fault("price |0001;", 1);
        fault("price |0000000000000000000000001;", 1);
        fault("price |4294967297;", 1);
        fault("price |-1;", 1);
        fault("price |/;", 1);
        fault("price |:;", 1);

        Check.rule("TOKENS: a WORD, NUMBER goes on as long as small letters and digits do");
        fault("price |1a;", 1);
        fault("street |a1;", 1);
        fault("street |a1b2;", 1);
        fault("|price1;", 1);
        fault("street a;|hand0 a 1 1;", 1);
        fault(SOME + "hand c s 1 |1child;", 1);
        fine("street a;hand b a 01 1 child;", 2);
    }

    private static void numbersOfHands() {
        Check.rule("'hand' NAME STREET IRONS: 0 to 20");
        for (int irons : new int[] {0, 1, 19, 20}) {
            ClogVotes x = Check.valley("street s;hand a s " + irons + " 7;");
            Check.same("hand(0, 1)", x.hand(0, 1), irons);
        }
        fault("street s;hand a s |21 7;", 2);
        fault("street s;hand a s |999 7;", 2);
        fault("street s;hand a s |; 7", 1);

        Check.rule("'hand' NAME STREET IRONS COIN: 0 to 99");
        for (int coin : new int[] {0, 1, 98, 99}) {
            ClogVotes x = Check.valley("street s;hand a s 7 " + coin + ";");
            Check.same("hand(0, 2)", x.hand(0, 2), coin);
        }
        fault("street s;hand a s 7 |100;", 2);
        fault("street s;hand a s 7 |999;", 2);
        fault("street s;hand a s 7|;", 1);

        Check.rule("'hand': [ 'child' ], once at most");
        ClogVotes x = Check.valley("street s;hand a s 7 8;hand b s 7 8 child;");
        Check.same("hand(0, 3)", x.hand(0, 3), 0);
        Check.same("hand(1, 3)", x.hand(1, 3), 1);
        fault("street s;hand a s 7 8 child |child;", 1);
        fault("street s;hand a s 7 |child;", 1);
    }

    private static void numbersOfOthers() {
        Check.rule("'grants' QUESTION STREET N: 1 to 9");
        for (int n : new int[] {1, 2, 8, 9}) {
            ClogVotes x = Check.valley(SOME + "grants r t " + n + ";");
            Check.same("grants(1, 1)", x.grants(1, 1), n);
        }
        fault(SOME + "grants r t |0;", 2);
        fault(SOME + "grants r t |10;", 2);

        Check.rule("'sand' WAY N: 0 to 20");
        for (int n : new int[] {0, 1, 19, 20}) {
            ClogVotes x = Check.valley("sand right " + n + ";sand left " + (20 - n) + ";");
            Check.same("way(1, 0)", x.way(1, 0), n);
            Check.same("way(0, 0)", x.way(0, 0), 20 - n);
        }
        fault("sand left |21;", 2);
        fault("sand right |21;", 2);

        Check.rule("'echo' WAY N: 0 to 99");
        for (int n : new int[] {0, 1, 98, 99}) {
            ClogVotes x = Check.valley("echo right " + n + ";echo left " + (99 - n) + ";");
            Check.same("way(1, 1)", x.way(1, 1), n);
            Check.same("way(0, 1)", x.way(0, 1), 99 - n);
        }
        fault("echo left |100;", 2);
        fault("echo right |100;", 2);

        Check.rule("'price' N: 1 to 9");
        for (int n : new int[] {1, 2, 8, 9}) {
            Check.same("count(3)", Check.valley("price " + n + ";").count(3), n);
        }
        fault("price |0;", 2);
        fault("price |10;", 2);

        Check.rule("'wage' N: 0 to 9");
        for (int n : new int[] {0, 1, 8, 9}) {
            Check.same("count(4)", Check.valley("wage " + n + ";").count(4), n);
        }
        fault("wage |10;", 2);
        fault("wage |999;", 2);

        Check.rule("WAY: 'left', 'right' alone");
        fine(SOME + "wants a q left;wants a r right;sand left 1;sand right 1;echo left 1;echo right 1;", 12);
        fault(SOME + "wants a q |a;", 1);
        fault(SOME + "wants a q |lef;", 1);
        fault(SOME + "wants a q |0;", 1);
        fault("sand |child 1;", 1);
        fault("echo |0 1;", 1);
    }

    private static void withoutLines() {
        ClogVotes x = Check.valley(SOME);
        Check.rule("'wants': without: no WAY");
        Check.same("wants(0, 0)", x.wants(0, 0), -2);
        Check.same("wants(1, 1)", x.wants(1, 1), -2);
        Check.same("question(0, 3)", x.question(0, 3), 0);
        Check.same("question(0, 4)", x.question(0, 4), 0);

        Check.rule("'sand': 0 without");
        Check.same("way(0, 0)", x.way(0, 0), 0);
        Check.same("way(1, 0)", x.way(1, 0), 0);

        Check.rule("'echo': 0 without");
        Check.same("way(0, 1)", x.way(0, 1), 0);
        Check.same("way(1, 1)", x.way(1, 1), 0);

        Check.rule("'price': 2 without");
        Check.same("count(3)", x.count(3), 2);

        Check.rule("'wage': 1 without");
        Check.same("count(4)", x.count(4), 1);
        x.days(1);
        Check.same("hand(0, 2)", x.hand(0, 2), 10);

        Check.rule("what an earlier VALLEY told is not there without");
        String others = "street s;street t;hand a s 5 9 child;hand b t 6 8 child;question q;question r;";
        x = Check.valley(others + "wants a q left;wants b q right;wants a r left;grants q s 3;grants r t 4;"
                + "sand left 5;sand right 6;echo left 7;echo right 8;price 9;wage 0;");
        Check.tell(x, SOME);
        Check.same("valley()", x.valley(), 6);
        Check.sameText("what is so", Edges.isSo(x), Edges.isSo(Check.valley(SOME)));
    }

    private static void once() {
        Check.rule("'wants': each HAND and QUESTION once");
        fine(SOME + "wants a q left;wants a r left;wants b q left;wants b r right;", 10);
        fault(SOME + "wants a q left;wants a |q left;", 3);
        fault(SOME + "wants b r right;wants a r left;wants b q left;wants b |r left;", 3);

        Check.rule("'grants': each two once");
        fine(SOME + "grants q s 1;grants q t 1;grants r s 1;grants r t 1;", 10);
        fault(SOME + "grants q s 1;grants q |s 1;", 3);
        fault(SOME + "grants r t 9;grants q t 1;grants r s 1;grants r |t 8;", 3);

        Check.rule("'sand': each once");
        fine("sand right 1;sand left 1;", 2);
        fault("sand left 1;sand |left 1;", 3);
        fault("sand right 0;sand left 0;sand |right 5;", 3);
        fault("sand left 0;sand |left 0;", 3);

        Check.rule("'echo': each once");
        fine("echo right 1;echo left 1;sand right 1;sand left 1;", 4);
        fault("echo left 1;echo |left 1;", 3);
        fault("echo right 0;echo left 0;echo |right 5;", 3);
        fault("echo left 0;echo |left 0;", 3);

        Check.rule("'price': once");
        fault("price 2;|price 2;", 3);
        fault("price 1;wage 1;|price 3;", 3);

        Check.rule("'wage': once");
        fault("wage 1;|wage 1;", 3);
        fault("wage 0;price 1;|wage 0;", 3);
    }

    private static void names() {
        Check.rule("NAME: a WORD, none of those told here, in a BOOK or a SENTENCE");
        for (String word : WORDS) {
            fault("street |" + word + ";", 1);
            fault("question |" + word + ";", 1);
            fault("street s;hand |" + word + " s 1 1;", 1);
            fine("street " + (word + "z").substring(word.length() == 8 ? 1 : 0) + ";", 1);
        }
        fault("street |5;", 1);
        fault("question |;", 1);

        Check.rule("NAME: told once");
        for (String sort : new String[] {"street |", "question |"}) {
            for (String name : new String[] {"s", "t", "a", "b", "q", "r"}) {
                fault(SOME + sort + name + ";", 3);
            }
        }
        for (String name : new String[] {"s", "t", "a", "b", "q", "r"}) {
            fault(SOME + "hand |" + name + " s 1 1;", 3);
        }
        fine(SOME + "street as;question sa;hand aa s 1 1;", 9);

        Check.rule("STREETS, HANDS, QUESTIONS numbered from 0 each");
        ClogVotes x = Check.valley("question z;street y;question x;street w;hand v w 1 1;hand u y 2 2;wants u x left;");
        Check.same("hand(0, 0)", x.hand(0, 0), 1);
        Check.same("hand(1, 0)", x.hand(1, 0), 0);
        Check.same("question(0, 3)", x.question(0, 3), 0);
        Check.same("question(1, 3)", x.question(1, 3), 2);
    }

    private static void most() {
        String streets = "street a;street b;street c;street d;street e;";
        Check.rule("5 STREETS at most");
        fine(streets, 5);
        fault(streets + "|street f;", 4);

        Check.rule("10 HANDS at most");
        StringBuilder hands = new StringBuilder("street a;");
        for (char name = 'k'; name <= 't'; name++) {
            hands.append("hand ").append(name).append(" a 1 1;");
        }
        fine(hands.toString(), 11);
        fault(hands + "|hand f a 1 1;", 4);

        Check.rule("5 QUESTIONS at most");
        String questions = "question f;question g;question h;question i;question j;";
        fine(questions, 5);
        fault(questions + "|question u;", 4);

        Check.rule("a VALLEY that is full of each sort");
        StringBuilder all = new StringBuilder(streets + hands.substring(9) + questions);
        int lines = 20;
        for (int pair = 0; pair < 25; pair++) {
            all.append("grants ").append((char) ('f' + pair / 5)).append(' ').append((char) ('a' + pair % 5)).append(" 9;");
            lines++;
        }
        String[] others = {"sand left 20;", "sand right 20;", "echo left 99;", "echo right 99;", "price 9;", "wage 9;"};
        for (String other : others) {
            all.append(other);
            lines++;
        }
        for (int pair = 0; all.length() + 15 < 900; pair++) {
            all.append("wants ").append((char) ('k' + pair / 5)).append(' ').append((char) ('f' + pair % 5)).append(" left;");
            lines++;
        }
        fine(all.toString(), lines);
        fault(all.toString().replace("price 9;", "price 9;|street z;").substring(0, 900), 4);
    }

    private static void bytes() {
        String blanks = Check.times(" ", 940);
        Check.rule("A VALLEY is a text of at most 900 bytes");
        fine(blanks.substring(0, 892) + "price 3;", 1);
        fine("price 3;" + blanks.substring(0, 892), 1);
        fault(blanks.substring(0, 893) + "price 3|;", 1);
        fault("price 3;" + blanks.substring(0, 892) + "| ", 1);
        fault(blanks.substring(0, 900) + "| ", 1);
        fault(blanks.substring(0, 900) + "|" + blanks.substring(0, 40), 1);
        fine(blanks.substring(0, 900), 0);

        Check.rule("an empty text is a VALLEY without LINES");
        fine("", 0);
        fine(" ", 0);
        fine("\n", 0);
    }

    private static void answers() {
        Check.rule("4: how many LINES");
        fine("price 3;", 1);
        fine("price 3;wage 2;", 2);
        fault("|;", 1);
        fault("price 3;|;", 1);

        Check.rule("4: -1 less the place of a FAULT");
        fault("|x", 1);
        fault(" |x", 1);
        fault("price 3;|x", 1);

        Check.rule("4: the tape is empty then, whatever is answered");
        ClogVotes x = new ClogVotes();
        for (String text : new String[] {"price 3;", "price 0;", "x", "", Check.times(" ", 940)}) {
            Check.tell(x, text);
            x.valley();
            Check.same("count(5) behind valley() of " + text, x.count(5), 0);
        }
    }

    private static void stays() {
        Check.rule("4: the VALLEY before stays with a FAULT");
        for (String text : new String[] {"x", "street u;price 0;", "street a;hand b a 1 1;question c;wants b c left;", "price 1;wage"}) {
            ClogVotes x = Edges.lively();
            String ahead = Edges.isSo(x);
            x.end(0);
            Check.tell(x, text + "?");
            Check.yes("valley() of " + text, x.valley() < 0);
            Check.sameText("what is so behind valley() of " + text, Edges.isSo(x), ahead);
            Edges.sameUndone("valley() of " + text, x, Edges.lively());
        }

        Check.rule("4: its names stay with a FAULT");
        ClogVotes x = Edges.lively();
        x.end(0);
        Check.tell(x, "street u;hand v u 1 1;question w;|");
        Check.yes("valley()", x.valley() < 0);
        Check.sameText("crier(0)", Check.cry(x, 0), "q is open");
        Check.same("book() of its names", Check.book(x, "a buys 1;put q;", 0), Check.NONE);
        Check.same("book() of other names", Check.book(x, "v buys 1;", 0), -2);
        Check.same("sentence() of its names", Check.sentence(x, "of s"), 1);

        Check.rule("4: nothing of a text with a FAULT is left for the next one");
        x = new ClogVotes();
        Check.tell(x, "street u;hand v u 1 1 child;question w;wants v w left;grants w u 5;sand left 5;echo left 5;price 5;wage 5;x");
        Check.yes("valley()", x.valley() < 0);
        Check.tell(x, "street u;hand v u 1 1;question w;");
        Check.same("valley()", x.valley(), 3);
        Check.sameText("what is so", Edges.isSo(x), Edges.isSo(Check.valley("street u;hand v u 1 1;question w;")));
        Check.tell(x, "sand left 5;echo left 5;price 5;wage 5;");
        Check.same("valley() of LINES that are told once", x.valley(), 4);
    }

    private static ClogVotes renewed() {
        ClogVotes x = Edges.lively();
        x.put(0);
        x.days(3);
        x.put(1);
        x.weather(2);
        x.end(0);
        Check.tell(x, Edges.LAND);
        Check.same("valley()", x.valley(), 17);
        return x;
    }

    private static void newValley() {
        Check.rule("A new VALLEY behind days, acts and what was PUT");
        ClogVotes x = renewed();

        Check.rule("A new VALLEY: DAY 0");
        Check.same("now(0)", x.now(0), 0);

        Check.rule("A new VALLEY: dry");
        Check.same("now(1)", x.now(1), 0);

        Check.rule("A new VALLEY: nothing PUT");
        Check.same("now(5)", x.now(5), 0);
        Check.same("now(6)", x.now(6), 0);
        Check.same("now(7)", x.now(7), 0);
        for (int q = 0; q < 3; q++) {
            Check.same("question(" + q + ", 0)", x.question(q, 0), 0);
            Check.same("question(" + q + ", 1)", x.question(q, 1), Check.NONE);
            Check.same("question(" + q + ", 2)", x.question(q, 2), Check.NONE);
        }

        Check.rule("A new VALLEY: nobody on STRIKE");
        Check.same("now(2)", x.now(2), 0);
        Check.same("hand(1, 4)", x.hand(1, 4), 0);

        Check.rule("A new VALLEY: no SENTENCE");
        Check.same("said(NONE)", x.said(Check.NONE), Check.NONE);
        Check.same("said(0)", x.said(0), Check.NONE);

        Check.rule("A new VALLEY: nothing can be undone");
        Check.same("undo()", x.undo(), Check.NONE);

        Check.rule("A new VALLEY: irons, coin, sand as its text tells");
        Check.sameText("what is so", Edges.isSo(x), Edges.isSo(Check.valley(Edges.LAND)));

        Check.rule("A new VALLEY: what other calls told last stays");
        x = Edges.lively();
        x.end(0);
        String ahead = Edges.wasTold(x);
        Check.same("valley() of nothing", x.valley(), 0);
        Check.sameText("what was told", Edges.wasTold(x), ahead);

        Check.rule("A new VALLEY: images stay kept");
        x = Edges.lively();
        x.end(0);
        x.valley();
        Check.yes("restore(1)", x.restore(1));
        Check.same("count(1)", x.count(1), 3);
        Check.no("restore(0)", x.restore(0));
    }
}
