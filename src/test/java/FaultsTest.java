/** Promises 4, 5, 40, 42: where and of which kind the first fault of a text is; the sign | marks the place. */
public final class FaultsTest {
    private static final String LAND = "street s;street t;hand a s 5 9;hand b t 6 8 child;question q;question r;";

    public static void main(String[] args) {
        tokens();
        valleyWords();
        valleyNumbers();
        valleyNames();
        valleyTooMany();
        valleyTooLong();
        books();
        booksTooLong();
        sentences();
        sentencesTooLong();
        faultStays();
        Check.finish("FaultsTest");
    }

    private static void valley(String marked, int kind) {
        ClogVotes x = new ClogVotes();
        int place = marked.indexOf('|');
        Check.tell(x, marked.substring(0, place) + marked.substring(place + 1));
        Check.same("valley() of " + marked, x.valley(), -1 - place);
        Check.same("fault() of " + marked, x.fault(), kind);
        Check.same("count(5) behind " + marked, x.count(5), 0);
    }

    private static void inLand(String marked, int kind) {
        valley(LAND + marked, kind);
    }

    private static void book(String marked, int kind) {
        ClogVotes x = Check.valley(LAND);
        int place = marked.indexOf('|');
        Check.tell(x, marked.substring(0, place) + marked.substring(place + 1));
        Check.same("book(1) of " + marked, x.book(1), -2 - place);
        Check.same("fault() of " + marked, x.fault(), kind);
        Check.same("count(5) behind " + marked, x.count(5), 0);
        Check.same("told(0) behind " + marked, x.told(0), Check.NONE);
        Check.same("undo() behind " + marked, x.undo(), Check.NONE);
    }

    private static void sentence(String marked, int kind) {
        ClogVotes x = Check.valley(LAND);
        int place = marked.indexOf('|');
        Check.tell(x, marked.substring(0, place) + marked.substring(place + 1));
        Check.same("sentence() of " + marked, x.sentence(), -1 - place);
        Check.same("fault() of " + marked, x.fault(), kind);
        Check.same("count(5) behind " + marked, x.count(5), 0);
        Check.same("said() behind " + marked, x.said(Check.NONE), Check.NONE);
    }

    private static void fine(String text, int lines) {
        ClogVotes x = new ClogVotes();
        Check.tell(x, text);
        Check.same("valley() of " + text, x.valley(), lines);
        Check.same("fault() of " + text, x.fault(), 0);
    }

    private static void tokens() {
        fine("", 0);
        fine(" \n ", 0);
        fine("street abcdefgh;", 1);
        fine("\nstreet\n\na\n;price 1;wage 007;", 3);
        valley("street |abcdefghi;", 1);
        valley("street |a1;", 1);
        valley("price |1a;", 1);
        valley("price |1000;", 1);
        valley("price |0001;", 1);
        valley("|Street a;", 1);
        valley("street a|A;", 1);
        valley("street a|_b;", 1);
        valley("street a|\t;", 1);
        valley("street a|\r\n;", 1);
        valley("street a|" + (char) 0 + ";", 1);
        valley("street a|" + (char) 255 + ";", 1);
        valley("street a|-b;", 1);
        valley("|streets a;", 1);
        valley("street|", 1);
        valley("street |", 1);
        valley("street a|", 1);
        valley("street a \n|", 1);
        valley("street a;price|", 1);
        valley("street a;|.", 1);
        valley("street a;|;", 1);
        valley("|<", 1);
        valley("street a|=", 1);
    }

    private static void valleyWords() {
        valley("|abc;", 1);
        valley("|buys;", 1);
        valley("|7;", 1);
        valley("street |7;", 1);
        String[] told = {"street", "hand", "child", "question", "wants", "left", "right", "grants", "sand", "echo",
            "price", "wage", "buys", "strikes", "works", "swayed", "put", "lay", "dry", "wet", "snow", "day", "or",
            "and", "not", "silent", "of", "for", "against", "irons", "coin", "number"};
        for (String word : told) {
            valley("street |" + word + ";", 1);
            valley("question |" + word + ";", 1);
            inLand("hand |" + word + " s 1 1;", 1);
            inLand("hand c |" + word + " 1 1;", 1);
            inLand("wants |" + word + " q left;", 1);
            inLand("wants a |" + word + " left;", 1);
            inLand("grants |" + word + " s 1;", 1);
            inLand("grants q |" + word + " 1;", 1);
        }
        fine("street hands;street told;street way;street sways;street buy;", 5);
        inLand("wants a q |q;", 1);
        inLand("wants a q |;", 1);
        inLand("wants a q left |right;", 1);
        inLand("wants a q |leftright;", 1);
        inLand("wants a q left |child;", 1);
        inLand("hand c s 1 1 |childs;", 1);
        inLand("hand c s 1 1 child |child;", 1);
        inLand("hand c s 1 |child;", 1);
        inLand("hand c s |x 1;", 1);
        inLand("hand c |1 1 1;", 1);
        inLand("sand |s 1;", 1);
        inLand("sand left|;", 1);
        inLand("echo |1;", 1);
        inLand("price |left;", 1);
        inLand("wage 1 |2;", 1);
    }

    private static void valleyNumbers() {
        fine(LAND + "hand c s 0 0;hand d s 20 99;grants q s 1;grants q t 9;sand left 0;sand right 20;"
            + "echo right 0;echo left 99;price 9;wage 9;", 16);
        fine("price 1;wage 0;", 2);
        inLand("hand c s 1 |1a;", 1);
        inLand("hand c s 1 |1000;", 1);
        inLand("hand c s 1 1 |childx1;", 1);
        inLand("hand c s |21 1;", 2);
        inLand("hand c s 20 |100;", 2);
        inLand("grants q s |0;", 2);
        inLand("grants q s |10;", 2);
        inLand("sand left |21;", 2);
        inLand("echo left |100;", 2);
        valley("price |0;", 2);
        valley("price |10;", 2);
        valley("wage |10;", 2);
        valley("wage |999", 2);
    }

    private static void valleyNames() {
        valley("street a;street |a;", 3);
        inLand("street |a;", 3);
        inLand("street |q;", 3);
        inLand("hand |a s 99 1;", 3);
        inLand("hand |s s 1 1;", 3);
        inLand("hand |r s 1 1;", 3);
        inLand("question |q;", 3);
        inLand("question |t;", 3);
        inLand("question |b;", 3);
        inLand("hand c |c 1 1;", 3);
        inLand("hand c |u 99 1;", 3);
        inLand("hand c |a 1 1;", 3);
        inLand("hand c |q 1 1;", 3);
        inLand("wants |c q left;", 3);
        inLand("wants |s q left;", 3);
        inLand("wants a |a left;", 3);
        inLand("wants a |x left;", 3);
        inLand("wants a |s left;", 3);
        inLand("grants |s q 1;", 3);
        inLand("grants q |r 1;", 3);
        inLand("grants q |u 1;", 3);
        valley("hand a |s 1 1;street s;", 3);
        inLand("wants a q left;wants a |q left;", 3);
        inLand("wants a q left;wants b q left;wants a r left;wants a |q right;", 3);
        inLand("grants q s 1;grants q t 1;grants r s 1;grants q |s 2;", 3);
        inLand("sand left 0;sand right 0;sand |left 0;", 3);
        inLand("sand right 1;sand |right 99;", 3);
        inLand("echo left 0;sand left 0;echo right 1;echo |right 1;", 3);
        inLand("echo left 0;echo |left 5;", 3);
        inLand("price 2;wage 1;|price 0;", 3);
        inLand("wage 1;|wage", 3);
        // the first along the text
        inLand("hand c |u 99 100;street s;", 3);
        inLand("wants |c c c;", 3);
    }

    private static void valleyTooMany() {
        String full = "street a;street b;street c;street d;street e;";
        fine(full, 5);
        valley(full + "|street f;", 4);
        valley(full + "|street a;", 4);
        valley(full + "|street", 4);
        String asked = "question qa;question qb;question qc;question qd;question qe;";
        fine(full + asked, 10);
        valley(full + asked + "|question a;", 4);
        StringBuilder hands = new StringBuilder("street a;");
        for (char sign = 'a'; sign < 'k'; sign++) {
            hands.append("hand h").append(sign).append(" a 1 1;");
        }
        fine(hands.toString(), 11);
        valley(hands + "|hand ha b 1 1;", 4);
        valley(hands + "|hand 1", 4);
        valley(hands + "|hand", 4);
    }

    private static void valley(String marked, int kind, int place) {
        ClogVotes x = new ClogVotes();
        Check.tell(x, marked.replace("|", ""));
        Check.same("valley() of " + marked, x.valley(), -1 - place);
        Check.same("fault() of " + marked, x.fault(), kind);
    }

    private static void valleyTooLong() {
        String blanks = Check.times(" ", 940);
        fine(blanks.substring(0, 900), 0);
        valley(blanks.substring(0, 901), 1, 900);
        valley(blanks, 1, 900);
        fine(blanks.substring(0, 891) + "street a;", 1);
        valley(blanks.substring(0, 891) + "street a; ", 1, 900);
        valley(blanks.substring(0, 892) + "street a;", 1, 900);
        // tokens that begin ahead of the 900th byte are read whole
        valley(blanks.substring(0, 892) + "street abc;", 1, 900);
        valley(blanks.substring(0, 892) + "street abcdefghij;", 1, 899);
        valley(blanks.substring(0, 892) + "street left;", 1, 899);
        valley(blanks.substring(0, 893) + "street abcdefghij;", 1, 900);
        valley("street b;" + blanks.substring(0, 883) + "street b;", 3, 899);
        valley("street bc;" + blanks.substring(0, 882) + "street bc;", 3, 899);
        valley(blanks.substring(0, 893) + "price 99;", 2, 899);
        valley(blanks.substring(0, 894) + "price 99;", 1, 900);
        valley(blanks.substring(0, 899) + "price 1;", 1, 900);
        valley(blanks.substring(0, 899) + "sand1 1;", 1, 899);
        fine(blanks.substring(0, 899), 0);
        valley("street 5;" + blanks.substring(0, 900), 1, 7);
        valley("street a" + blanks.substring(0, 892), 1, 900);
        valley("street a" + blanks.substring(0, 893), 1, 900);
        valley("street a" + blanks.substring(0, 891), 1, 899);
    }

    private static void books() {
        book("|c buys 1;", 3);
        book("|s buys 1;", 3);
        book("|q buys 1;", 3);
        book("|left;", 1);
        book("|buys 1;", 1);
        book("|street a;", 1);
        book("|5;", 1);
        book("|;", 1);
        book("a |put;", 1);
        book("a|;", 1);
        book("a buys|;", 1);
        book("a buys |0;", 2);
        book("a buys |21;", 2);
        book("a buys |a;", 1);
        book("a buys 20|", 1);
        book("a strikes |q;", 1);
        book("a works |1;", 1);
        book("a swayed |left;", 1);
        book("a swayed |b left;", 3);
        book("a swayed |x left;", 3);
        book("a swayed q |up;", 1);
        book("a swayed q|;", 1);
        book("a swayed q left|.;", 1);
        book("put |a;", 3);
        book("put |x;", 3);
        book("put |left;", 1);
        book("put|;", 1);
        book("put q |r;", 1);
        book("lay |a 5;", 1);
        book("lay left |21;", 2);
        book("lay left|;", 1);
        book("dry |1;", 1);
        book("wet|", 1);
        book("snow|(;", 1);
        book("day |0;", 2);
        book("day |61;", 2);
        book("day|;", 1);
        book("a strikes;a strikes;|x", 3);
        ClogVotes x = Check.valley(LAND);
        Check.same("40 lines", Check.book(x, Check.times("day 1;", 40), 0), Check.NONE);
        Check.same("fault()", x.fault(), 0);
        String forty = Check.times("wet;", 40);
        book(forty + "|wet;", 4);
        book(forty + "|a buys 99;", 4);
        book(forty + "|put", 4);
        book(forty + "|x", 3);
        book(forty + "|s", 3);
        book(forty + "|or", 1);
        book(forty + "|;", 1);
        book(forty + "|7", 1);
        book(Check.times("a strikes;", 39) + "put q;|put q;", 4);
        Check.same("40 lines and blanks", Check.book(x, Check.times("day 1;", 40) + " \n ", 0), Check.NONE);
    }

    private static void booksTooLong() {
        String blanks = Check.times(" ", 400);
        ClogVotes x = Check.valley(LAND);
        Check.same("400 bytes", Check.book(x, blanks.substring(0, 396) + "dry;", 0), 0);
        Check.same("401 bytes", Check.book(x, blanks.substring(0, 397) + "dry;", 0), -402);
        Check.same("fault()", x.fault(), 1);
        Check.same("401 blanks", Check.book(x, blanks + " ", 0), -402);
        Check.same("a token over the end", Check.book(x, blanks.substring(0, 399) + "dry;", 0), -402);
        Check.same("no token over the end", Check.book(x, blanks.substring(0, 399) + "dry1;", 0), -401);
        Check.same("a name over the end", Check.book(x, blanks.substring(0, 399) + "xyz;", 0), -401);
        Check.same("fault()", x.fault(), 3);
        Check.same("a fault ahead", Check.book(x, "put a;" + blanks, 0), -6);
    }

    private static void sentences() {
        sentence("|", 1);
        sentence(" \n|", 1);
        sentence("|or child", 1);
        sentence("|and", 1);
        sentence("|a", 1);
        sentence("|left", 1);
        sentence("|5", 1);
        sentence("|)", 1);
        sentence("child|;", 1);
        sentence("child|.", 1);
        sentence("child |child", 1);
        sentence("child |not child", 1);
        sentence("child or|", 1);
        sentence("child and |or child", 1);
        sentence("not|", 1);
        sentence("not |and", 1);
        sentence("(|", 1);
        sentence("(|)", 1);
        sentence("(child|", 1);
        sentence("(child |child)", 1);
        sentence("(child)|)", 1);
        sentence("of |child", 1);
        sentence("of |a", 3);
        sentence("of |q", 3);
        sentence("of |u", 3);
        sentence("for |s", 3);
        sentence("for |a", 3);
        sentence("against |b", 3);
        sentence("against |t", 3);
        sentence("against |left", 1);
        sentence("irons |5", 1);
        sentence("irons |(", 1);
        sentence("irons |;", 1);
        sentence("coin <|", 1);
        sentence("number = |a", 1);
        sentence("number = |1000", 1);
        sentence("number <|= 5", 1);
        sentence("silent |5", 1);
        sentence("child" + Check.times(" or child", 19) + " or |child", 4);
        sentence("not not not child" + Check.times(" and child", 16) + " and |of x", 4);
        sentence("child" + Check.times(" or child", 19) + " or |(", 4);
        sentence("child" + Check.times(" or child", 19) + " or |not 5", 4);
        sentence("child" + Check.times(" or child", 19) + " or |a", 1);
        sentence("(not child)" + Check.times(" or child", 17) + " or |child", 4);
        sentence("not not not not not not not not |child", 4);
        sentence("((((((((|child))))))))", 4);
        sentence("((((((((|(", 4);
        sentence("((((((((|a", 1);
        sentence("not(not(not(not(|not child))))", 4);
        sentence("child or not not not not not not not (|irons", 4);
        ClogVotes x = Check.valley(LAND);
        Check.same("twenty ones", Check.sentence(x, "child" + Check.times(" or child", 19)), 20);
        Check.same("eight within one another", Check.sentence(x, "not not not not not not not child"), 8);
        Check.same("eight within one another", Check.sentence(x, "(((((((child)))))))"), 8);
        Check.same("eight, twice", Check.sentence(x, "((((((child and not silent))))) or silent)"), 10);
        Check.same("ones", Check.sentence(x, "irons=5 and coin<009 or number>999"), 3);
    }

    private static void sentencesTooLong() {
        String blanks = Check.times(" ", 200);
        ClogVotes x = Check.valley(LAND);
        Check.same("200 bytes", Check.sentence(x, blanks.substring(0, 195) + "child"), 1);
        Check.same("201 bytes", Check.sentence(x, blanks.substring(0, 196) + "child"), -201);
        Check.same("201 bytes", Check.sentence(x, "child" + blanks.substring(0, 196)), -201);
        Check.same("fault()", x.fault(), 1);
        Check.same("a name over the end", Check.sentence(x, blanks.substring(0, 196) + "of xyz"), -200);
        Check.same("fault()", x.fault(), 3);
        Check.same("the sentence stays", x.said(Check.NONE), 1);
    }

    private static void faultStays() {
        ClogVotes x = Check.valley(LAND);
        Check.book(x, "x", 0);
        Check.same("fault()", x.fault(), 3);
        Check.tell(x, "wet;");
        Check.same("book(2)", x.book(2), -1000);
        Check.same("book(-1)", x.book(-1), -1000);
        Check.same("fault() stays", x.fault(), 3);
        Check.same("the tape stays", x.count(5), 4);
        Check.same("book(0)", x.book(0), Check.NONE);
        Check.same("fault() is gone", x.fault(), 0);
        Check.sentence(x, "of");
        Check.same("fault()", x.fault(), 1);
        Check.same("sentence()", Check.sentence(x, "silent"), 1);
        Check.same("fault() is gone", x.fault(), 0);
        Check.sentence(x, "of");
        Check.same("valley()", x.valley(), 0);
        Check.same("fault() is gone", x.fault(), 0);
    }
}
