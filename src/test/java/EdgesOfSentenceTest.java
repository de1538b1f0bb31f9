/** The edges of promises 42 and 43: sentences of one and of twenty ones, and the hands of which they may be said. */
public final class EdgesOfSentenceTest {
    private static final String LAND = "street s;street t;hand a s 9 10;hand b t 5 20 child;hand c t 0 0;hand d s 20 99 child;"
            + "question q;question r;wants a q left;wants b q right;wants c q left;wants b r left;";
    private static final String TEN = "street z;street y;hand a z 1 0;hand b y 1 0;hand c z 1 0;hand d y 1 0;hand e z 1 0;"
            + "hand f y 1 0;hand g z 1 0;hand h y 1 0;hand i z 1 0;hand j y 1 0;";

    public static void main(String[] args) {
        ones();
        countOfOnes();
        bytes();
        stays();
        kinds();
        signs();
        nesting();
        saidNone();
        saidEach();
        saidNow();
        Check.finish("EdgesOfSentenceTest");
    }

    private static ClogVotes with(String land, String text, int ones) {
        ClogVotes x = Check.valley(land);
        Check.same("sentence() of " + text, Check.sentence(x, text), ones);
        return x;
    }

    /** The sentence may be said of these hands, as bits. */
    private static void said(String text, int ones, int due) {
        ClogVotes x = Check.valley(LAND);
        x.strike(2);
        Check.same("sentence() of " + text, Check.sentence(x, text), ones);
        int got = 0;
        int many = x.said(Check.NONE);
        for (int k = 0; k < many; k++) {
            got |= 1 << x.said(k);
        }
        Check.same("said() of " + text, got, due);
        Check.same("said(NONE) of " + text, many, Integer.bitCount(due));
        Check.same("said() beyond, of " + text, x.said(many), Check.NONE);
    }

    private static void ones() {
        Check.rule("42: how many ONES (each not, bracket and other one): 1");
        with(LAND, "child", 1);
        with(LAND, "of s", 1);
        with(LAND, "irons=5", 1);

        Check.rule("42: how many ONES: a not and what it is said of are two");
        with(LAND, "not child", 2);
        with(LAND, "not not child", 3);

        Check.rule("42: how many ONES: a bracket and what is in it");
        with(LAND, "(child)", 2);
        with(LAND, "(child or silent and of t)", 4);
        with(LAND, "not (not child)", 4);

        Check.rule("42: 'or', 'and' are none");
        with(LAND, "child or silent and of t or for q and against r", 5);
    }

    private static void countOfOnes() {
        Check.rule("SENTENCE: 20 ONES");
        with(LAND, "child" + Check.times(" or child", 19), 20);
        with(LAND, Check.times("not child and ", 9) + "not child", 20);
        with(LAND, Check.times("(child) or ", 9) + "(child)", 20);
        ClogVotes x = Check.valley(LAND);
        Check.same("21 ONES", Check.sentence(x, "child" + Check.times(" or child", 20)), -1 - 180);
        Check.same("fault()", x.fault(), 4);

        Check.rule("SENTENCE: 8 within one another");
        with(LAND, "not not not not not not not child", 8);
        with(LAND, "(((((((child)))))))", 8);
        with(LAND, "not(not(not(not child)))", 8);
        Check.same("nine within", Check.sentence(x, "((((((((child))))))))"), -9);
        Check.same("fault()", x.fault(), 4);

        Check.rule("42: -1 less the place of a FAULT");
        Check.same("sentence() of nothing", x.sentence(), -1);
        Check.same("sentence() of a blank", Check.sentence(x, " "), -2);
        Check.same("sentence() of a name", Check.sentence(x, "a"), -1);
        Check.same("sentence() of two", Check.sentence(x, "child child"), -7);
    }

    private static void bytes() {
        String blanks = Check.times(" ", 200);
        Check.rule("A SENTENCE is a text of at most 200 bytes");
        with(LAND, blanks.substring(0, 195) + "child", 1);
        with(LAND, "child" + blanks.substring(0, 195), 1);
        ClogVotes x = Check.valley(LAND);
        Check.same("201 bytes", Check.sentence(x, "child" + blanks.substring(0, 196)), -201);
        Check.same("fault()", x.fault(), 1);

        Check.rule("42: the tape is empty then, whatever is answered");
        for (String text : new String[] {"", "child", "child child", blanks + blanks}) {
            Check.sentence(x, text);
            Check.same("count(5) behind sentence() of " + text, x.count(5), 0);
        }
    }

    private static void stays() {
        Check.rule("42: the SENTENCE before stays with a FAULT");
        for (String text : new String[] {"", "silent or", "silent;", "of x", "silent" + Check.times(" or silent", 20), Check.times(" ", 201)}) {
            ClogVotes x = with(LAND, "child or number=0", 2);
            Check.yes("sentence() of " + text, Check.sentence(x, text) < 0);
            Check.same("said(NONE)", x.said(Check.NONE), 3);
            Check.same("said(2)", x.said(2), 3);
        }

        Check.rule("42: with a FAULT and no SENTENCE before there is none");
        ClogVotes x = Check.valley(LAND);
        Check.sentence(x, "child or");
        Check.same("said(NONE)", x.said(Check.NONE), Check.NONE);

        Check.rule("42: the tape is the SENTENCE now: a shorter one behind a longer one");
        x = with(LAND, "child or number=0 or not silent", 4);
        Check.same("sentence()", Check.sentence(x, "child"), 1);
        Check.same("said(NONE)", x.said(Check.NONE), 2);

        Check.rule("42: nothing that is so changes, nothing is undone by it");
        x = Edges.lively();
        x.end(0);
        Check.sentence(x, "child or silent");
        Check.sameText("what is so", Edges.isSo(x), Edges.isSo(Edges.lively()));
        Check.same("undo()", x.undo(), 1);
    }

    private static void kinds() {
        Check.rule("SENTENCE: 'silent' (on STRIKE)");
        said("silent", 1, 4);
        said("not silent", 2, 11);

        Check.rule("SENTENCE: 'child'");
        said("child", 1, 10);
        said("not child", 2, 5);

        Check.rule("SENTENCE: 'of' STREET, the first and the last");
        said("of s", 1, 9);
        said("of t", 1, 6);

        Check.rule("SENTENCE: 'for' QUESTION (wants it by the left), by none not");
        said("for q", 1, 5);
        said("for r", 1, 2);
        said("not for q", 2, 10);

        Check.rule("SENTENCE: 'against' QUESTION (by the right), by none not");
        said("against q", 1, 2);
        said("against r", 1, 0);
        said("not against q and not for q", 4, 8);
    }

    private static void signs() {
        Check.rule("SENTENCE: 'irons' SIGN NUMBER: less, as many, more; 0 and 20");
        said("irons<5", 1, 4);
        said("irons=5", 1, 2);
        said("irons>5", 1, 9);
        said("irons<0", 1, 0);
        said("irons=0", 1, 4);
        said("irons>0", 1, 11);
        said("irons<20", 1, 7);
        said("irons=20", 1, 8);
        said("irons>20", 1, 0);

        Check.rule("SENTENCE: 'coin' SIGN NUMBER: less, as much, more; 0, 99 and 999");
        said("coin<20", 1, 5);
        said("coin=20", 1, 2);
        said("coin>20", 1, 8);
        said("coin=0", 1, 4);
        said("coin<99", 1, 7);
        said("coin=99", 1, 8);
        said("coin>99", 1, 0);
        said("coin<999", 1, 15);
        said("coin>999", 1, 0);
        ClogVotes rich = Check.valley("street s;hand a s 1 99;wage 9;");
        rich.days(60);
        rich.days(60);
        Check.sentence(rich, "coin=999");
        Check.same("said(NONE) of 999 COIN", rich.said(Check.NONE), 1);

        Check.rule("SENTENCE: 'number' SIGN NUMBER (its number), from 0");
        said("number<1", 1, 1);
        said("number=0", 1, 1);
        said("number>0", 1, 14);
        said("number=3", 1, 8);
        said("number>3", 1, 0);
        said("number<4", 1, 15);
        said("number<0", 1, 0);
        said("number=003", 1, 8);
    }

    private static void nesting() {
        Check.rule("SENTENCE: 'and' binds ahead of 'or'");
        said("of s or child and of t", 3, 11);
        said("child and of t or of s", 3, 11);
        said("silent or child and of s or number=0", 4, 13);

        Check.rule("SENTENCE: brackets ahead of 'and'");
        said("(of s or child) and of t", 4, 2);
        said("of t and (of s or child)", 4, 2);

        Check.rule("SENTENCE: 'not' of the one ONE behind it");
        said("not child and of s", 3, 1);
        said("not child or of t", 3, 7);
        said("not (child or of t)", 4, 1);
        said("not not child", 3, 10);

        Check.rule("SENTENCE: of 20 ONES the last, of 8 within the innermost");
        said("silent" + Check.times(" or silent", 17) + " or child and of s", 20, 12);
        said("number=0" + Check.times(" or silent", 18) + " or number=1", 20, 7);
        said("not not not not not not not child", 8, 5);
        said("(((((((child)))))))", 8, 10);
    }

    private static void saidNone() {
        Check.rule("43: NONE: there is no SENTENCE");
        ClogVotes x = Check.valley(LAND);
        for (int k : new int[] {Integer.MIN_VALUE, -2, -1, 0, 1, Integer.MAX_VALUE}) {
            Check.same("said(" + k + ")", x.said(k), Check.NONE);
            Check.same("said(" + k + ") of a new object", new ClogVotes().said(k), Check.NONE);
        }

        Check.rule("43: NONE: none such");
        for (int k : new int[] {Integer.MIN_VALUE, -3, -2, 2, 3, 10, Integer.MAX_VALUE}) {
            Edges.unchanged("said(" + k + ")", y -> y.said(k), Check.NONE);
        }

        Check.rule("43: how many (k NONE): 0, of none and of nobody");
        x = with(LAND, "irons>99", 1);
        Check.same("said(NONE)", x.said(Check.NONE), 0);
        Check.same("said(0)", x.said(0), Check.NONE);
        x = with("street s;", "not child", 2);
        Check.same("said(NONE) of nobody", x.said(Check.NONE), 0);
        Check.same("said(0) of nobody", x.said(0), Check.NONE);
        x = new ClogVotes();
        Check.same("sentence() of an empty VALLEY", Check.sentence(x, "child"), 1);
        Check.same("said(NONE) of an empty VALLEY", x.said(Check.NONE), 0);
    }

    private static void saidEach() {
        Check.rule("43: the k-th: of all ten, from 0");
        ClogVotes x = with(TEN, "not child", 2);
        Check.same("said(NONE)", x.said(Check.NONE), 10);
        for (int k = 0; k < 10; k++) {
            Check.same("said(" + k + ")", x.said(k), k);
        }
        Check.same("said(10)", x.said(10), Check.NONE);

        Check.rule("43: the k-th: of some, in their order");
        x = with(TEN, "of y", 1);
        Check.same("said(NONE)", x.said(Check.NONE), 5);
        for (int k = 0; k < 5; k++) {
            Check.same("said(" + k + ")", x.said(k), 2 * k + 1);
        }
        Check.same("said(5)", x.said(5), Check.NONE);

        Check.rule("43: the k-th: of one, the last");
        x = with(TEN, "number=9", 1);
        Check.same("said(NONE)", x.said(Check.NONE), 1);
        Check.same("said(0)", x.said(0), 9);
        Check.same("said(1)", x.said(1), Check.NONE);
    }

    private static void saidNow() {
        Check.rule("43: of what is so now: acts done and undone");
        ClogVotes x = with(LAND, "silent or for q or irons>9 or coin=11", 4);
        Check.same("said(NONE): a, c, d", x.said(Check.NONE), 3);
        x.strike(1);
        Check.same("said(NONE): b too", x.said(Check.NONE), 4);
        x.undo();
        Check.same("said(NONE)", x.said(Check.NONE), 3);
        x.sway(0, 0, 1);
        Check.same("said(NONE): c, d", x.said(Check.NONE), 2);
        x.days(1);
        Check.same("said(NONE): a by its COIN", x.said(Check.NONE), 3);

        Check.rule("43: behind a new VALLEY there is no SENTENCE, with a FAULT it stays");
        Check.tell(x, "x");
        x.valley();
        Check.same("said(NONE)", x.said(Check.NONE), 3);
        x.valley();
        Check.same("said(NONE)", x.said(Check.NONE), Check.NONE);
    }
}
