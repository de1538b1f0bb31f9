/** The edges of FAULTS in all three texts, and of promise 5. The sign | marks a fault's place. */
public final class EdgesOfFaultsTest {
    private static final String SOME = "street s;street t;hand a s 5 9;hand b t 6 8 child;question q;question r;";
    private static final String BLANKS = Check.times(" ", 940);

    public static void main(String[] args) {
        first();
        least();
        cantCome();
        theEnd();
        tooLong();
        readWhole();
        numbers();
        names();
        tooMany();
        withinOneAnother();
        kind();
        Check.finish("EdgesOfFaultsTest");
    }

    private static int read(ClogVotes x, char text) {
        return text == 'v' ? x.valley() : text == 'b' ? x.book(0) : x.sentence();
    }

    /** The text (v: a valley, b: a book, s: a sentence) has its first fault at the sign |. */
    private static void fault(char text, String marked, int kind) {
        ClogVotes x = text == 'v' ? new ClogVotes() : Check.valley(SOME);
        int place = marked.indexOf('|');
        Check.tell(x, marked.substring(0, place) + marked.substring(place + 1));
        String told = text + " of " + (marked.length() < 200 ? marked : marked.length() + " bytes, " + marked.trim());
        Check.same(told, read(x, text), (text == 'b' ? -2 : -1) - place);
        Check.same("fault() behind " + told, x.fault(), kind);
        Check.same("count(5) behind " + told, x.count(5), 0);
    }

    private static void valley(String marked, int kind) {
        fault('v', marked, kind);
    }

    private static void book(String marked, int kind) {
        fault('b', marked, kind);
    }

    private static void sentence(String marked, int kind) {
        fault('s', marked, kind);
    }

    private static void fine(char text, String told, int due) {
        ClogVotes x = text == 'v' ? new ClogVotes() : Check.valley(SOME);
        Check.tell(x, told);
        Check.same(text + " of " + told, read(x, text), due);
        Check.same("fault() behind " + told, x.fault(), 0);
    }

    private static void first() {
        Check.rule("FAULTS, the first along the text: 1 ahead of 2, 3, 4");
        valley("price |x;price 0;price 1;", 1);
        book("|?;a buys 99;c works;", 1);
        sentence("|;of x", 1);

        Check.rule("FAULTS, the first along the text: 2 ahead of 1, 3, 4");
        valley("price |0;price 1;x", 2);
        book("a buys |21;c works;?", 2);

        Check.rule("FAULTS, the first along the text: 3 ahead of 1, 2, 4");
        valley("street a;street |a;price 0;x", 3);
        book("|c buys 21;?", 3);
        sentence("of |x ?", 3);

        Check.rule("FAULTS, the first along the text: 4 ahead of 1, 2, 3");
        valley("question a;question b;question c;question d;question e;|question a;price 0;?", 4);
        book(Check.times("a works;", 40) + "|a buys 21;?", 4);
        sentence(Check.times("child or ", 20) + "|of x ?", 4);
    }

    private static void least() {
        Check.rule("FAULTS, of one TOKEN the least: 1, not 4");
        book(Check.times("dry;", 40) + "|or", 1);
        book(Check.times("dry;", 40) + "|a1", 1);
        sentence(Check.times("child or ", 20) + "|and", 1);
        sentence("((((((((|a", 1);
        sentence("((((((((|)", 1);

        Check.rule("FAULTS, of one TOKEN the least: 3, not 4");
        book(Check.times("dry;", 40) + "|x", 3);
        book(Check.times("dry;", 40) + "|q works;", 3);

        Check.rule("FAULTS, of one TOKEN the least: 1, not 2");
        valley("price |0000;", 1);
        book("a buys |0x;", 1);

        Check.rule("FAULTS, of one TOKEN the least: 1, not 3");
        valley("street a;street |a1;", 1);
        sentence("of |child", 1);
        book("|child works;", 1);
    }

    private static void cantCome() {
        Check.rule("FAULT 1: no TOKEN (at it)");
        valley("price 2;|~", 1);
        valley("price 2;  |Aprice", 1);
        book("dry;|dry1;", 1);
        sentence("child or |childchild", 1);

        Check.rule("FAULT 1: one that can't come (at it)");
        valley("price 2|wage 2;".replace("2|", "2 |"), 1);
        valley("price 2;|buys 2;", 1);
        valley("price 2|.", 1);
        book("dry |wet;", 1);
        book("|silent;", 1);
        book("|price 1;", 1);
        sentence("child|;", 1);
        sentence("|dry", 1);
        sentence("irons |child", 1);
        sentence("coin <|> 5", 1);
    }

    private static void theEnd() {
        Check.rule("FAULT 1: one that can't come: ; ahead of the end of a LINE");
        for (String line : new String[] {"street |;", "hand |;", "hand c |;", "hand c s |;", "hand c s 1 |;", "question |;",
            "wants |;", "wants a |;", "wants a q |;", "grants |;", "grants q |;", "grants q s |;", "sand |;", "sand left |;",
            "echo |;", "echo right |;", "price |;", "wage |;", "|;"}) {
            valley(SOME + line, 1);
        }
        for (String line : new String[] {"a |;", "a buys |;", "a swayed |;", "a swayed q |;", "put |;", "lay |;", "lay left |;",
            "day |;", "|;"}) {
            book("wet;" + line, 1);
        }

        Check.rule("FAULT 1: one that can't come: the end or ) ahead of the end of a ONE");
        for (String one : new String[] {"not |", "of |", "for |", "against |", "irons |", "coin |", "number |", "irons < |",
            "coin = |", "number > |", "child or |", "child and |", "|"}) {
            sentence(one, 1);
            sentence("(" + one + ")", 1);
        }

        Check.rule("FAULT 1: one that can't come: another WORD behind a HAND of a BOOK");
        for (String word : new String[] {"put", "lay", "dry", "day", "wants", "left", "not", "child"}) {
            book("a |" + word + " q left;", 1);
        }

        Check.rule("FAULT 1: the end: how many bytes there are");
        valley("price 2|", 1);
        valley("price 2  |", 1);
        valley("price|", 1);
        valley("price\n|", 1);
        valley("hand|", 1);
        book("dry|", 1);
        book("dry \n |", 1);
        book("a|", 1);
        sentence("child and|", 1);
        sentence("child and   |", 1);
        sentence("(child|", 1);
        sentence(Check.times("child and ", 20) + "|", 1);

        Check.rule("FAULT 1: the end of an empty text");
        sentence("|", 1);
        sentence("  |", 1);
        fine('v', "", 0);
        fine('b', "", Check.NONE);

        Check.rule("FAULT 1: the end of a text of just as many bytes as it may have");
        valley("price 2" + BLANKS.substring(0, 893) + "|", 1);
        book("dry" + BLANKS.substring(0, 397) + "|", 1);
        sentence("not" + BLANKS.substring(0, 197) + "|", 1);
        sentence(BLANKS.substring(0, 200) + "|", 1);
    }

    private static void tooLong() {
        Check.rule("FAULT 1: the most bytes told, if there are more: of a VALLEY 900");
        fine('v', BLANKS.substring(0, 892) + "price 2;", 1);
        valley("price 2;" + BLANKS.substring(0, 892) + "| ", 1);
        valley("price 2;" + BLANKS.substring(0, 892) + "|" + BLANKS.substring(0, 40), 1);
        valley(BLANKS.substring(0, 900) + "|price 2;", 1);
        valley(BLANKS.substring(0, 900) + "|?", 1);
        valley("price 2" + BLANKS.substring(0, 893) + "|;", 1);

        Check.rule("FAULT 1: the most bytes told, if there are more: of a BOOK 400");
        fine('b', BLANKS.substring(0, 396) + "wet;", Check.NONE);
        book("wet;" + BLANKS.substring(0, 396) + "| ", 1);
        book(BLANKS.substring(0, 400) + "|wet;", 1);
        book(BLANKS.substring(0, 400) + "|" + BLANKS.substring(0, 540), 1);
        book("wet" + BLANKS.substring(0, 397) + "|;", 1);

        Check.rule("FAULT 1: the most bytes told, if there are more: of a SENTENCE 200");
        fine('s', BLANKS.substring(0, 195) + "child", 1);
        sentence("child" + BLANKS.substring(0, 195) + "| ", 1);
        sentence(BLANKS.substring(0, 200) + "|child", 1);
        sentence(BLANKS.substring(0, 200) + "|" + BLANKS.substring(0, 740), 1);
        sentence("child or" + BLANKS.substring(0, 192) + "|child", 1);

        Check.rule("FAULT 1: the most bytes told, if no FAULT is ahead");
        valley("price |0;" + BLANKS.substring(0, 900), 2);
        valley(BLANKS.substring(0, 899) + "|?" + BLANKS.substring(0, 30), 1);
        book("|x" + BLANKS.substring(0, 500), 3);
        sentence("child |child" + BLANKS.substring(0, 300), 1);
        sentence(Check.times("child or ", 20) + "|child" + BLANKS.substring(0, 300), 4);
    }

    private static void readWhole() {
        Check.rule("FAULT 1: TOKENS that begin ahead of the most bytes are read whole: no TOKEN, at it");
        valley(BLANKS.substring(0, 899) + "|price1;", 1);
        valley(BLANKS.substring(0, 892) + "|streetsss a;", 1);
        book(BLANKS.substring(0, 399) + "|dry1;", 1);
        sentence(BLANKS.substring(0, 199) + "|childchild", 1);

        Check.rule("FAULT 1: TOKENS that begin ahead of the most bytes are read whole: one that comes, the end behind it");
        valley(BLANKS.substring(0, 899) + "p|rice 2;", 1);
        valley("price " + BLANKS.substring(0, 893) + "0|01;", 1);
        book(BLANKS.substring(0, 398) + "dr|y;", 1);
        sentence(BLANKS.substring(0, 196) + "chil|d", 1);

        Check.rule("FAULT 1: TOKENS that begin just at the most bytes are not read: no FAULT 2, 3, 4");
        valley("price " + BLANKS.substring(0, 894) + "|0;", 1);
        valley("price 1;" + BLANKS.substring(0, 892) + "|price 1;", 1);
        valley("street a;street b;street c;street d;street e;" + BLANKS.substring(0, 855) + "|street f;", 1);
        book("day " + BLANKS.substring(0, 396) + "|61;", 1);
        book("put " + BLANKS.substring(0, 396) + "|x;", 1);
        book(Check.times("a works;", 40) + BLANKS.substring(0, 80) + "|wet;", 1);
        sentence("of " + BLANKS.substring(0, 197) + "|x", 1);
        sentence(Check.times("child and ", 20) + "|child", 1);

        Check.rule("FAULT 1: no TOKEN, as long as the tape lets it be");
        valley(BLANKS.substring(0, 899) + "|" + Check.times("a", 41), 1);
        valley("|" + Check.times("a", 940), 1);
        book("|" + Check.times("7", 940), 1);
        sentence("child |" + Check.times("a", 934), 1);

        Check.rule("FAULT 2 of a NUMBER that begins ahead of the most bytes and is read whole");
        valley("price " + BLANKS.substring(0, 893) + "|10;", 2);
        book("day " + BLANKS.substring(0, 395) + "|61;", 2);

        Check.rule("FAULT 3 of a NAME that begins ahead of the most bytes and is read whole");
        valley("street ab;" + BLANKS.substring(0, 882) + "street |ab;", 3);
        valley("street ab;" + BLANKS.substring(0, 882) + "street a|c;", 1);
        book("put " + BLANKS.substring(0, 395) + "|qq;", 3);
        sentence("of " + BLANKS.substring(0, 196) + "|st", 3);

        Check.rule("FAULT 4 of a WORD that begins ahead of the most bytes and is read whole");
        valley("street a;street b;street c;street d;street e;" + BLANKS.substring(0, 854) + "|street f;", 4);
        book(Check.times("a works;", 40) + BLANKS.substring(0, 79) + "|wet;", 4);
        sentence(Check.times("child or ", 20) + BLANKS.substring(0, 19) + "|child", 4);
    }

    private static void numbers() {
        Check.rule("FAULT 2: a NUMBER that is not as told (at it): below");
        valley("price |0;", 2);
        valley(SOME + "grants q s |000;", 2);
        book("a buys |0;", 2);
        book("day |0;", 2);

        Check.rule("FAULT 2: a NUMBER that is not as told (at it): above");
        valley(SOME + "hand c s |21 1;", 2);
        valley(SOME + "hand c s 1 |100;", 2);
        book("a buys |21;", 2);
        book("lay left |21;", 2);
        book("day |61;", 2);

        Check.rule("FAULT 2: none of a SENTENCE: any NUMBER of 1 to 3 digits is as told");
        fine('s', "irons<0 or coin>999 or number=500", 3);
        sentence("irons<|1000", 1);
    }

    private static void names() {
        Check.rule("FAULT 3: a NAME told twice");
        valley("street a;street |a;", 3);
        valley("street a;hand |a a 99 999;", 3);
        valley("question a;question |a;", 3);

        Check.rule("FAULT 3: a NAME not told");
        valley(SOME + "hand c |u 1 1;", 3);
        valley(SOME + "wants |u q left;", 3);
        valley(SOME + "wants a |u left;", 3);
        valley(SOME + "grants |u s 1;", 3);
        valley(SOME + "grants q |u 1;", 3);
        book("|u works;", 3);
        book("a swayed |u left;", 3);
        book("put |u;", 3);
        sentence("of |u", 3);
        sentence("for |u", 3);
        sentence("against |u", 3);

        Check.rule("FAULT 3: a NAME that is told only further along is not told");
        valley("hand a |s 1 1;street s;", 3);
        valley("wants |a q left;" + SOME, 3);
        valley("grants |q s 1;" + SOME, 3);

        Check.rule("FAULT 3: a NAME of a VALLEY that is no more is not told");
        ClogVotes x = Check.valley(SOME);
        Check.tell(x, "street c;hand d c 1 1;question e;");
        x.valley();
        Check.same("book()", Check.book(x, "a works;", 0), -2);
        Check.same("fault()", x.fault(), 3);
        Check.same("sentence()", Check.sentence(x, "of s"), -4);
        Check.same("fault()", x.fault(), 3);

        Check.rule("FAULT 3: a NAME of another sort");
        for (String other : new String[] {"a", "q"}) {
            valley(SOME + "hand c |" + other + " 1 1;", 3);
            valley(SOME + "grants q |" + other + " 1;", 3);
            sentence("of |" + other, 3);
        }
        for (String other : new String[] {"s", "q"}) {
            valley(SOME + "wants |" + other + " q left;", 3);
            book("|" + other + " works;", 3);
        }
        for (String other : new String[] {"s", "a"}) {
            valley(SOME + "wants a |" + other + " left;", 3);
            valley(SOME + "grants |" + other + " s 1;", 3);
            book("a swayed |" + other + " left;", 3);
            book("put |" + other + ";", 3);
            sentence("for |" + other, 3);
            sentence("against |" + other, 3);
        }

        Check.rule("FAULT 3: two that were told together told so again (at the second)");
        valley(SOME + "wants a q left;wants a |q left;", 3);
        valley(SOME + "wants a q left;wants a |q up;", 3);
        valley(SOME + "grants q s 1;grants q |s 99;", 3);
        valley(SOME + "grants q s 1;grants q |s", 3);

        Check.rule("FAULT 3: 'sand', 'echo' of a WAY told again (at the WAY)");
        valley("sand left 1;sand |left 99;", 3);
        valley("sand right 1;sand |right", 3);
        valley("echo left 1;echo |left 999;", 3);
        valley("echo right 1;echo |right", 3);

        Check.rule("FAULT 3: 'price', 'wage' told again (at it)");
        valley("price 1;|price 99;", 3);
        valley("price 1;|price", 3);
        valley("wage 1;|wage 99;", 3);
        valley("wage 1;|wage", 3);
    }

    private static void tooMany() {
        Check.rule("FAULT 4: one more STREET than there may be (at the LINE's first WORD)");
        String streets = "street a;street b;street c;street d;street e;";
        valley(streets + "|street f;", 4);
        valley(streets + "|street a;", 4);
        valley(streets + "|street 5;", 4);
        valley(streets + "|street", 4);

        Check.rule("FAULT 4: one more HAND than there may be (at the LINE's first WORD)");
        StringBuilder hands = new StringBuilder("street a;");
        for (char name = 'k'; name <= 't'; name++) {
            hands.append("hand ").append(name).append(" a 1 1;");
        }
        valley(hands + "|hand f a 1 1;", 4);
        valley(hands + "|hand k a 1 1;", 4);
        valley(hands + "|hand f x 99 1;", 4);
        valley(hands + "|hand", 4);

        Check.rule("FAULT 4: one more QUESTION than there may be (at the LINE's first WORD)");
        String questions = "question f;question g;question h;question i;question j;";
        valley(questions + "|question u;", 4);
        valley(questions + "|question f;", 4);
        valley(questions + "|question", 4);

        Check.rule("FAULT 4: a 41st LINE of a BOOK (at the LINE's first WORD)");
        fine('b', "wet;" + Check.times("day 1;", 39), Check.NONE);
        for (String line : new String[] {"a buys 1;", "b strikes;", "put q;", "lay left 1;", "dry;", "wet;", "snow;", "day 99;", "day", "a"}) {
            book(Check.times("wet;", 40) + "|" + line, 4);
            book(Check.times("wet;", 40) + " \n |" + line, 4);
        }
        fine('b', "wet;" + Check.times("day 1;", 39) + " \n", Check.NONE);

        Check.rule("FAULT 4: a 21st ONE (at its first TOKEN)");
        fine('s', "child" + Check.times(" or child", 19), 20);
        for (String one : new String[] {"not child", "(child)", "silent", "child", "of s", "for q", "against q", "irons < 5", "coin = 5", "number > 5"}) {
            sentence(Check.times("child or ", 20) + "|" + one, 4);
            sentence(Check.times("child or ", 10) + Check.times("child and ", 10) + "|" + one, 4);
        }
        sentence(Check.times("not child or ", 9) + "(child and |silent)", 4);
        sentence(Check.times("(child) or ", 10) + "|silent", 4);
        fine('s', Check.times("(child) or ", 9) + "not child", 20);
    }

    private static void withinOneAnother() {
        Check.rule("FAULT 4: a ninth within (at its first TOKEN)");
        fine('s', "not not not not not not not child", 8);
        fine('s', "(((((((child)))))))", 8);
        sentence("not not not not not not not not |child", 4);
        sentence("not not not not not not not not |not child", 4);
        sentence("((((((((|child))))))))", 4);
        sentence("(not(not(not(not |(child)))))", 4);
        sentence("not(not(not(not(|of x))))", 4);

        Check.rule("SENTENCE: ONES that are joined are not within one another");
        fine('s', "not not not not not not not child and not not not not not not not child", 16);
        fine('s', "((((((child or silent and of s) or child))))) and child", 11);
        sentence("child or silent and ((((((((|child))))))))", 4);
    }

    private static void kind() {
        Check.rule("5: 0 ahead of any");
        Check.same("fault()", new ClogVotes().fault(), 0);

        Check.rule("5: the kind of the latest valley()");
        ClogVotes x = Check.valley(SOME);
        Check.tell(x, "price 0;");
        x.valley();
        Check.same("fault()", x.fault(), 2);

        Check.rule("5: the kind of the latest book()");
        Check.book(x, "c works;", 1);
        Check.same("fault()", x.fault(), 3);
        Check.book(x, Check.times("wet;", 41), 0);
        Check.same("fault()", x.fault(), 4);

        Check.rule("5: the kind of the latest sentence()");
        Check.sentence(x, "or");
        Check.same("fault()", x.fault(), 1);

        Check.rule("5: a book() of -1000 leaves it");
        Check.sentence(x, "of u");
        Check.tell(x, "a buys 0;");
        Check.same("book(2)", x.book(2), -1000);
        Check.same("fault()", x.fault(), 3);
        Check.same("book(-1)", x.book(-1), -1000);
        Check.same("fault()", x.fault(), 3);
        x.end(0);

        Check.rule("5: 0 without one");
        Check.sentence(x, "?");
        Check.sentence(x, "child");
        Check.same("fault() behind sentence()", x.fault(), 0);
        Check.sentence(x, "?");
        Check.book(x, "wet;wet;", 0);
        Check.same("fault() behind a book() that is WRONG", x.fault(), 0);
        Check.sentence(x, "?");
        Check.book(x, "wet;", 1);
        Check.same("fault() behind book()", x.fault(), 0);
        Check.sentence(x, "?");
        Check.same("valley()", x.valley(), 0);
        Check.same("fault() behind valley()", x.fault(), 0);

        Check.rule("5: no other call changes it");
        x = Edges.lively();
        x.end(0);
        Check.sentence(x, "of u");
        x.heard();
        x.restore(1);
        x.crier(0);
        x.strike(0);
        x.undo();
        x.image(0);
        x.end(5);
        x.feed(0, 0, 0, 0, 0);
        Check.same("fault()", x.fault(), 3);
    }
}
